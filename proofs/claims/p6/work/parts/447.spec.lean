theorem jw_0571619de0 : Cond.fieldLink RX11 43 "SeriesFundModel" "assetsLeft" "[J" ∈ jj_G := jj_t6 (List.mem_of_getElem? (i := 175) (by decide +kernel)) rfl
theorem jw_24c56b223b : Cond.fieldLink RX11 46 "SeriesFundModel" "unitsLeft" "[J" ∈ jj_G := jj_t6 (List.mem_of_getElem? (i := 176) (by decide +kernel)) rfl
theorem jw_903a26b408 : Cond.code yX11_usedUp cX11_usedUp 20 (some .long) ∈ jj_G := jj_t9 (List.mem_of_getElem? (i := 10) (by decide +kernel)) rfl
theorem jw_a5c3cf770b : Cond.methodLink RX11 443 yX11_usedUp ∈ jj_G := jj_t9 (List.mem_of_getElem? (i := 7) (by decide +kernel)) rfl
theorem jw_8a51dbbccb : Cond.instanceMethod yX11_usedUp ∈ jj_G := jj_t9 (List.mem_of_getElem? (i := 9) (by decide +kernel)) rfl
theorem jw_2ee7f39845 : Cond.selects RX11 yX11_usedUp yX11_usedUp ∈ jj_G := jj_pv (q := (yX11_usedUp, 25)) (by decide +kernel)
theorem jn_X11_usedUp : jj_N yX11_usedUp 1 := by unfold jj_N; decide +kernel
theorem jw_9eaf9a2ff0 : Cond.code yX11_worthBy cX11_worthBy 6 (some .long) ∈ jj_G := jj_t9 (List.mem_of_getElem? (i := 6) (by decide +kernel)) rfl
theorem jw_da6e46c2f8 : Cond.methodLink RX11 446 yX11_worthBy ∈ jj_G := jj_t9 (List.mem_of_getElem? (i := 3) (by decide +kernel)) rfl
theorem jw_8fa0d84a27 : Cond.instanceMethod yX11_worthBy ∈ jj_G := jj_t9 (List.mem_of_getElem? (i := 5) (by decide +kernel)) rfl
theorem jw_d3c4ac7ed6 : Cond.selects RX11 yX11_worthBy yX11_worthBy ∈ jj_G := jj_pv (q := (yX11_worthBy, 25)) (by decide +kernel)
theorem jn_X11_worthBy : jj_N yX11_worthBy 2 := by unfold jj_N; decide +kernel
theorem jw_628ae85f1b : Cond.code yX11_rateFor cX11_rateFor 5 (some .int) ∈ jj_G := jj_t9 (List.mem_of_getElem? (i := 2) (by decide +kernel)) rfl
theorem jw_b7d8894a18 : Cond.code yX11_print cX11_print 2 none ∈ jj_G := jj_t9 (List.mem_of_getElem? (i := 39) (by decide +kernel)) rfl
theorem jw_b95c722318 : Cond.methodLink RX11 330 yJ0_length_8abf5 ∈ jj_G := jj_t8 (List.mem_of_getElem? (i := 79) (by decide +kernel)) rfl
theorem jw_0b21ef6890 : Cond.methodLink RX11 334 yJ0_charAt_5068e ∈ jj_G := jj_t8 (List.mem_of_getElem? (i := 80) (by decide +kernel)) rfl
theorem jw_5467bceb3b : Cond.methodLink RX11 453 yX11_print ∈ jj_G := jj_t9 (List.mem_of_getElem? (i := 36) (by decide +kernel)) rfl
theorem jw_6617e6021e : Cond.instanceMethod yX11_print ∈ jj_G := jj_t9 (List.mem_of_getElem? (i := 38) (by decide +kernel)) rfl
theorem jw_7548414167 : Cond.selects RX11 yX11_print yX11_print ∈ jj_G := jj_pv (q := (yX11_print, 25)) (by decide +kernel)
theorem jn_X11_print : jj_N yX11_print 1 := by unfold jj_N; decide +kernel
theorem jw_b4eaee752c : Cond.code yX11_printWord cX11_printWord 3 none ∈ jj_G := jj_t9 (List.mem_of_getElem? (i := 35) (by decide +kernel)) rfl
theorem jw_f5f0bc6b7c : Cond.constantLong RX11 457 (10) ∈ jj_G := jj_t9 (List.mem_of_getElem? (i := 44) (by decide +kernel)) rfl
theorem jw_48170ecb3c : Cond.code yX11_printNumber cX11_printNumber 3 none ∈ jj_G := jj_t9 (List.mem_of_getElem? (i := 43) (by decide +kernel)) rfl
theorem jw_bb61e96786 : Cond.methodLink RX11 459 yX11_printNumber ∈ jj_G := jj_t9 (List.mem_of_getElem? (i := 40) (by decide +kernel)) rfl
theorem jw_d73f5cdc0e : Cond.instanceMethod yX11_printNumber ∈ jj_G := jj_t9 (List.mem_of_getElem? (i := 42) (by decide +kernel)) rfl
theorem jw_e0101bc9a3 : Cond.selects RX11 yX11_printNumber yX11_printNumber ∈ jj_G := jj_pv (q := (yX11_printNumber, 25)) (by decide +kernel)
theorem jn_X11_printNumber : jj_N yX11_printNumber 1 := by unfold jj_N; decide +kernel
theorem jw_31f5fe1455 : Cond.methodLink RX11 465 yX11_printWord ∈ jj_G := jj_t9 (List.mem_of_getElem? (i := 32) (by decide +kernel)) rfl
theorem jw_1ec544ea5d : Cond.instanceMethod yX11_printWord ∈ jj_G := jj_t9 (List.mem_of_getElem? (i := 34) (by decide +kernel)) rfl
theorem jw_0de28f9134 : Cond.selects RX11 yX11_printWord yX11_printWord ∈ jj_G := jj_pv (q := (yX11_printWord, 25)) (by decide +kernel)
theorem jn_X11_printWord : jj_N yX11_printWord 1 := by unfold jj_N; decide +kernel
theorem jw_b9b1520d5d : Cond.code yX11_printSeries cX11_printSeries 5 none ∈ jj_G := jj_t9 (List.mem_of_getElem? (i := 49) (by decide +kernel)) rfl
theorem jw_28b6fac6d9 : Cond.methodLink RX11 472 yX11_printSeries ∈ jj_G := jj_t9 (List.mem_of_getElem? (i := 46) (by decide +kernel)) rfl
theorem jw_21bcf8eb6e : Cond.instanceMethod yX11_printSeries ∈ jj_G := jj_t9 (List.mem_of_getElem? (i := 48) (by decide +kernel)) rfl
theorem jw_a4728b372a : Cond.selects RX11 yX11_printSeries yX11_printSeries ∈ jj_G := jj_pv (q := (yX11_printSeries, 25)) (by decide +kernel)
theorem jn_X11_printSeries : jj_N yX11_printSeries 1 := by unfold jj_N; decide +kernel
theorem jw_04505d628d : Cond.code yX11_writeReport cX11_writeReport 2 (some .int) ∈ jj_G := jj_t9 (List.mem_of_getElem? (i := 30) (by decide +kernel)) rfl
set_option maxHeartbeats 4000000 in
set_option maxRecDepth 100000 in
theorem ct_J0_coder_7d493_s1 {l : Launch} (hl : l.stackTraces = false) (D : va_G) (cA : Nat → ClassId) (ak : (Nat → Nat) × (Nat → Nat)) : jj_M l D cA ak yJ0_coder_7d493 (.code yJ0_coder_7d493 cJ0_coder_7d493 1 (some .byte)) 0 0 0 0 [] [.ref (ak.1 33)] (fun (w : va_W) (r : Option Value) => (w = [] ∧ r = some (.int 0))) jj_noX := by
  refine jj_start hl (by decide) jw_084b973d83 (jj_le rfl) ?_
  intro p e s m args below meth c A hargs hA C hex hmn
  refine jj_gcs C jw_478bb18c33 dJ0_coder_7d493_0 ?_
  refine jj_if_eqF (tgt := 13) C dJ0_coder_7d493_3 (by decide) (by decide) ?_
  refine jj_aload_n C dJ0_coder_7d493_6 rfl ?_
  refine jj_scod (k := 33) C (by decide) jw_7816d6e515 dJ0_coder_7d493_7 ?_
  refine jj_goto (tgt := 14) C dJ0_coder_7d493_10 (by decide) ?_
  exact jj_zret C rfl ⟨rfl, rfl⟩ dJ0_coder_7d493_14 (jj_le rfl) (jj_le rfl)

set_option maxHeartbeats 4000000 in
set_option maxRecDepth 100000 in
theorem ct_J0_length_8abf5_s1 {l : Launch} (hl : l.stackTraces = false) (D : va_G) (cA : Nat → ClassId) (ak : (Nat → Nat) × (Nat → Nat)) : jj_M l D cA ak yJ0_length_8abf5 (.code yJ0_length_8abf5 cJ0_length_8abf5 1 (some .int)) 1 20 0 0 [] [.ref (ak.1 33)] (fun (w : va_W) (r : Option Value) => (w = [] ∧ r = some (.int 4))) jj_noX := by
  refine jj_start hl (by decide) jw_bbc7045666 (jj_le rfl) ?_
  intro p e s m args below meth c A hargs hA C hex hmn
  refine jj_aload_n C dJ0_length_8abf5_0 rfl ?_
  refine jj_sval (k := 33) C (by decide) jw_90a506b1c3 dJ0_length_8abf5_1 ?_
  refine jj_slen (k := 33) (v := 4) C (by decide) (by decide) dJ0_length_8abf5_4 ?_
  refine jj_aload_n C dJ0_length_8abf5_5 rfl ?_
  refine jq_callVs (rest := [.int 4]) C (ct_J0_coder_7d493_s1 hl D cA ak) [] [] rfl rfl (by decide) (by decide) (by decide) 33 (by decide) rfl jw_f46b3464d2 jw_35edddbded jw_31f76f5b78 jw_4ea6285965 jw_084b973d83 jn_J0_coder_7d493 rfl (jj_le rfl) (jj_le rfl) (jj_le rfl) (jj_le rfl) (jj_le rfl) dJ0_length_8abf5_6 rfl (fun _ _ hX => hX.elim) (fun w1 r O_2 => ?_)
  obtain ⟨rfl, rfl⟩ := O_2
  refine jj_apd rfl ?_
  refine jj_ishr (v := 4) C dJ0_length_8abf5_9 (by decide) ?_
  exact jj_iret C ⟨rfl, rfl⟩ dJ0_length_8abf5_10 (jj_le rfl) (jj_le rfl)

set_option maxHeartbeats 4000000 in
set_option maxRecDepth 100000 in
theorem ct_J0_isLatin1_aae02_s1 {l : Launch} (hl : l.stackTraces = false) (D : va_G) (cA : Nat → ClassId) (ak : (Nat → Nat) × (Nat → Nat)) : jj_M l D cA ak yJ0_isLatin1_aae02 (.code yJ0_isLatin1_aae02 cJ0_isLatin1_aae02 1 (some .boolean)) 0 0 0 0 [] [.ref (ak.1 33)] (fun (w : va_W) (r : Option Value) => (w = [] ∧ r = some (.int 1))) jj_noX := by
  refine jj_start hl (by decide) jw_1aa7753999 (jj_le rfl) ?_
  intro p e s m args below meth c A hargs hA C hex hmn
  refine jj_gcs C jw_478bb18c33 dJ0_isLatin1_aae02_0 ?_
  refine jj_if_eqF (tgt := 17) C dJ0_isLatin1_aae02_3 (by decide) (by decide) ?_
  refine jj_aload_n C dJ0_isLatin1_aae02_6 rfl ?_
  refine jj_scod (k := 33) C (by decide) jw_7816d6e515 dJ0_isLatin1_aae02_7 ?_
  refine jj_if_neF (tgt := 17) C dJ0_isLatin1_aae02_10 (by decide) (by decide) ?_
  refine jj_iconst (v := 1) C dJ0_isLatin1_aae02_13 (by decide) ?_
  refine jj_goto (tgt := 18) C dJ0_isLatin1_aae02_14 (by decide) ?_
  exact jj_zret C rfl ⟨rfl, rfl⟩ dJ0_isLatin1_aae02_18 (jj_le rfl) (jj_le rfl)

set_option maxHeartbeats 4000000 in
set_option maxRecDepth 100000 in
theorem ct_J3_checkIndex_8e157_s1 {l : Launch} (hl : l.stackTraces = false) (D : va_G) (cA : Nat → ClassId) (ak : (Nat → Nat) × (Nat → Nat)) (h0 : Nat) : jj_M l D cA ak yJ3_checkIndex_8e157 (.code yJ3_checkIndex_8e157 cJ3_checkIndex_8e157 3 (some .int)) 0 0 0 0 [] [.int 0, .int 4, .ref h0] (fun (w : va_W) (r : Option Value) => (w = [] ∧ r = some (.int 0))) jj_noX := by
  refine jj_start hl (by decide) jw_da9869a695 (jj_le rfl) ?_
  intro p e s m args below meth c A hargs hA C hex hmn
  refine jj_iload_n C dJ3_checkIndex_8e157_0 rfl ?_
  refine jj_if_ltF (tgt := 9) C dJ3_checkIndex_8e157_1 (by decide) (by decide) ?_
  refine jj_iload_n C dJ3_checkIndex_8e157_4 rfl ?_
  refine jj_iload_n C dJ3_checkIndex_8e157_5 rfl ?_
  refine jj_icmp_ltT (tgt := 16) C dJ3_checkIndex_8e157_6 (by decide) (by decide) ?_
  refine jj_iload_n C dJ3_checkIndex_8e157_16 rfl ?_
  exact jj_iret C ⟨rfl, rfl⟩ dJ3_checkIndex_8e157_17 (jj_le rfl) (jj_le rfl)

set_option maxHeartbeats 4000000 in
set_option maxRecDepth 100000 in
theorem ct_J3_checkIndex_8e157_s2 {l : Launch} (hl : l.stackTraces = false) (D : va_G) (cA : Nat → ClassId) (ak : (Nat → Nat) × (Nat → Nat)) : jj_M l D cA ak yJ3_checkIndex_8e157 (.code yJ3_checkIndex_8e157 cJ3_checkIndex_8e157 3 (some .int)) 0 0 0 0 [] [.int 0, .int 4, .null] (fun (w : va_W) (r : Option Value) => (w = [] ∧ r = some (.int 0))) jj_noX := by
  refine jj_start hl (by decide) jw_da9869a695 (jj_le rfl) ?_
  intro p e s m args below meth c A hargs hA C hex hmn
  refine jj_iload_n C dJ3_checkIndex_8e157_0 rfl ?_
  refine jj_if_ltF (tgt := 9) C dJ3_checkIndex_8e157_1 (by decide) (by decide) ?_
  refine jj_iload_n C dJ3_checkIndex_8e157_4 rfl ?_
  refine jj_iload_n C dJ3_checkIndex_8e157_5 rfl ?_
  refine jj_icmp_ltT (tgt := 16) C dJ3_checkIndex_8e157_6 (by decide) (by decide) ?_
  refine jj_iload_n C dJ3_checkIndex_8e157_16 rfl ?_
  exact jj_iret C ⟨rfl, rfl⟩ dJ3_checkIndex_8e157_17 (jj_le rfl) (jj_le rfl)

set_option maxHeartbeats 4000000 in
set_option maxRecDepth 100000 in
theorem ct_J0_checkIndex_df160_s1 {l : Launch} (hl : l.stackTraces = false) (D : va_G) (cA : Nat → ClassId) (ak : (Nat → Nat) × (Nat → Nat)) : jj_M l D cA ak yJ0_checkIndex_df160 (.code yJ0_checkIndex_df160 cJ0_checkIndex_df160 2 none) 1 22 0 0 [] [.int 0, .int 4] (fun (w : va_W) (r : Option Value) => (w = [] ∧ r = none)) jj_noX := by
  refine jj_start hl (by decide) jw_73f64df4e3 (jj_le rfl) ?_
  intro p e s m args below meth c A hargs hA C hex hmn
  refine jj_iload_n C dJ0_checkIndex_df160_0 rfl ?_
  refine jj_iload_n C dJ0_checkIndex_df160_1 rfl ?_
  refine jj_gfm C jw_040150fc39 dJ0_checkIndex_df160_2 (fun t_1 => ?_) ?_
  · refine jq_callS (rest := []) C (ct_J3_checkIndex_8e157_s1 hl D cA ak t_1) [] [] rfl rfl (by decide) (by decide) (by decide) jw_a7a8b385a1 jw_8d35bed6b0 jw_2c7dffdd00 jw_da9869a695 jn_J3_checkIndex_8e157 rfl (jj_le rfl) (jj_le rfl) (jj_le rfl) (jj_le rfl) (jj_le rfl) dJ0_checkIndex_df160_5 rfl (fun _ _ hX => hX.elim) (fun w1 r O_3 => ?_)
    obtain ⟨rfl, rfl⟩ := O_3
    refine jj_apd rfl ?_
    refine jj_pop C dJ0_checkIndex_df160_8 rfl ?_
    exact jj_vret C ⟨rfl, rfl⟩ dJ0_checkIndex_df160_9 (jj_le rfl) (jj_le rfl)
  · refine jq_callS (rest := []) C (ct_J3_checkIndex_8e157_s2 hl D cA ak) [] [] rfl rfl (by decide) (by decide) (by decide) jw_a7a8b385a1 jw_8d35bed6b0 jw_2c7dffdd00 jw_da9869a695 jn_J3_checkIndex_8e157 rfl (jj_le rfl) (jj_le rfl) (jj_le rfl) (jj_le rfl) (jj_le rfl) dJ0_checkIndex_df160_5 rfl (fun _ _ hX => hX.elim) (fun w1 r O_5 => ?_)
    obtain ⟨rfl, rfl⟩ := O_5
    refine jj_apd rfl ?_
    refine jj_pop C dJ0_checkIndex_df160_8 rfl ?_
    exact jj_vret C ⟨rfl, rfl⟩ dJ0_checkIndex_df160_9 (jj_le rfl) (jj_le rfl)

set_option maxHeartbeats 4000000 in
set_option maxRecDepth 100000 in
theorem ct_J1_charAt_3b067_s1 {l : Launch} (hl : l.stackTraces = false) (D : va_G) (cA : Nat → ClassId) (ak : (Nat → Nat) × (Nat → Nat)) : jj_M l D cA ak yJ1_charAt_3b067 (.code yJ1_charAt_3b067 cJ1_charAt_3b067 2 (some .char)) 2 43 0 0 [] [.ref (ak.2 33), .int 0] (fun (w : va_W) (r : Option Value) => (w = [] ∧ r = some (.int 100))) jj_noX := by
  refine jj_start hl (by decide) jw_6996a9eac3 (jj_le rfl) ?_
  intro p e s m args below meth c A hargs hA C hex hmn
  refine jj_iload_n C dJ1_charAt_3b067_0 rfl ?_
  refine jj_aload_n C dJ1_charAt_3b067_1 rfl ?_
  refine jj_slen (k := 33) (v := 4) C (by decide) (by decide) dJ1_charAt_3b067_2 ?_
  refine jq_callS (rest := []) C (ct_J0_checkIndex_df160_s1 hl D cA ak) [] [] rfl rfl (by decide) (by decide) (by decide) jw_763fabfbf2 jw_9aa540e9dd jw_4ea6285965 jw_73f64df4e3 jn_J0_checkIndex_df160 rfl (jj_le rfl) (jj_le rfl) (jj_le rfl) (jj_le rfl) (jj_le rfl) dJ1_charAt_3b067_3 rfl (fun _ _ hX => hX.elim) (fun w1 r O_2 => ?_)
  obtain ⟨rfl, rfl⟩ := O_2
  refine jj_apd rfl ?_
  refine jj_aload_n C dJ1_charAt_3b067_6 rfl ?_
  refine jj_iload_n C dJ1_charAt_3b067_7 rfl ?_
  refine jj_sbyt (k := 33) (v := 100) C (by decide) (vp_in_iff.mpr (by decide)) (by decide) dJ1_charAt_3b067_8 ?_
  refine jj_sipush (v := 255) C dJ1_charAt_3b067_9 (by decide) ?_
  refine jj_iand (v := 100) C dJ1_charAt_3b067_12 (by decide) ?_
  refine jj_i2c (v := 100) C dJ1_charAt_3b067_13 (by decide) ?_
  exact jj_zret C rfl ⟨rfl, rfl⟩ dJ1_charAt_3b067_14 (jj_le rfl) (jj_le rfl)

set_option maxHeartbeats 4000000 in
set_option maxRecDepth 100000 in
theorem ct_J0_charAt_5068e_s1 {l : Launch} (hl : l.stackTraces = false) (D : va_G) (cA : Nat → ClassId) (ak : (Nat → Nat) × (Nat → Nat)) : jj_M l D cA ak yJ0_charAt_5068e (.code yJ0_charAt_5068e cJ0_charAt_5068e 2 (some .char)) 3 64 0 0 [] [.ref (ak.1 33), .int 0] (fun (w : va_W) (r : Option Value) => (w = [] ∧ r = some (.int 100))) jj_noX := by
  refine jj_start hl (by decide) jw_391c0f56bd (jj_le rfl) ?_
  intro p e s m args below meth c A hargs hA C hex hmn
  refine jj_aload_n C dJ0_charAt_5068e_0 rfl ?_
  refine jq_callVs (rest := []) C (ct_J0_isLatin1_aae02_s1 hl D cA ak) [] [] rfl rfl (by decide) (by decide) (by decide) 33 (by decide) rfl jw_5ca960aa2e jw_b7ba7c03ae jw_c4fe6f1e08 jw_4ea6285965 jw_1aa7753999 jn_J0_isLatin1_aae02 rfl (jj_le rfl) (jj_le rfl) (jj_le rfl) (jj_le rfl) (jj_le rfl) dJ0_charAt_5068e_1 rfl (fun _ _ hX => hX.elim) (fun w1 r O_2 => ?_)
  obtain ⟨rfl, rfl⟩ := O_2
  refine jj_apd rfl ?_
  refine jj_if_eqF (tgt := 16) C dJ0_charAt_5068e_4 (by decide) (by decide) ?_
  refine jj_aload_n C dJ0_charAt_5068e_7 rfl ?_
  refine jj_sval (k := 33) C (by decide) jw_90a506b1c3 dJ0_charAt_5068e_8 ?_
  refine jj_iload_n C dJ0_charAt_5068e_11 rfl ?_
  refine jq_callS (rest := []) C (ct_J1_charAt_3b067_s1 hl D cA ak) [] [] rfl rfl (by decide) (by decide) (by decide) jw_7e2463d496 jw_530d7ac64c jw_2a3a2ce6ce jw_6996a9eac3 jn_J1_charAt_3b067 rfl (jj_le rfl) (jj_le rfl) (jj_le rfl) (jj_le rfl) (jj_le rfl) dJ0_charAt_5068e_12 rfl (fun _ _ hX => hX.elim) (fun w1 r O_4 => ?_)
  obtain ⟨rfl, rfl⟩ := O_4
  refine jj_apd rfl ?_
  exact jj_zret C rfl ⟨rfl, rfl⟩ dJ0_charAt_5068e_15 (jj_le rfl) (jj_le rfl)

set_option maxHeartbeats 4000000 in
set_option maxRecDepth 100000 in
theorem ct_J3_checkIndex_8e157_s3 {l : Launch} (hl : l.stackTraces = false) (D : va_G) (cA : Nat → ClassId) (ak : (Nat → Nat) × (Nat → Nat)) (h0 : Nat) : jj_M l D cA ak yJ3_checkIndex_8e157 (.code yJ3_checkIndex_8e157 cJ3_checkIndex_8e157 3 (some .int)) 0 0 0 0 [] [.int 1, .int 4, .ref h0] (fun (w : va_W) (r : Option Value) => (w = [] ∧ r = some (.int 1))) jj_noX := by
  refine jj_start hl (by decide) jw_da9869a695 (jj_le rfl) ?_
  intro p e s m args below meth c A hargs hA C hex hmn
  refine jj_iload_n C dJ3_checkIndex_8e157_0 rfl ?_
  refine jj_if_ltF (tgt := 9) C dJ3_checkIndex_8e157_1 (by decide) (by decide) ?_
  refine jj_iload_n C dJ3_checkIndex_8e157_4 rfl ?_
  refine jj_iload_n C dJ3_checkIndex_8e157_5 rfl ?_
  refine jj_icmp_ltT (tgt := 16) C dJ3_checkIndex_8e157_6 (by decide) (by decide) ?_
  refine jj_iload_n C dJ3_checkIndex_8e157_16 rfl ?_
  exact jj_iret C ⟨rfl, rfl⟩ dJ3_checkIndex_8e157_17 (jj_le rfl) (jj_le rfl)

set_option maxHeartbeats 4000000 in
set_option maxRecDepth 100000 in
theorem ct_J3_checkIndex_8e157_s4 {l : Launch} (hl : l.stackTraces = false) (D : va_G) (cA : Nat → ClassId) (ak : (Nat → Nat) × (Nat → Nat)) : jj_M l D cA ak yJ3_checkIndex_8e157 (.code yJ3_checkIndex_8e157 cJ3_checkIndex_8e157 3 (some .int)) 0 0 0 0 [] [.int 1, .int 4, .null] (fun (w : va_W) (r : Option Value) => (w = [] ∧ r = some (.int 1))) jj_noX := by
  refine jj_start hl (by decide) jw_da9869a695 (jj_le rfl) ?_
  intro p e s m args below meth c A hargs hA C hex hmn
  refine jj_iload_n C dJ3_checkIndex_8e157_0 rfl ?_
  refine jj_if_ltF (tgt := 9) C dJ3_checkIndex_8e157_1 (by decide) (by decide) ?_
  refine jj_iload_n C dJ3_checkIndex_8e157_4 rfl ?_
  refine jj_iload_n C dJ3_checkIndex_8e157_5 rfl ?_
  refine jj_icmp_ltT (tgt := 16) C dJ3_checkIndex_8e157_6 (by decide) (by decide) ?_
  refine jj_iload_n C dJ3_checkIndex_8e157_16 rfl ?_
  exact jj_iret C ⟨rfl, rfl⟩ dJ3_checkIndex_8e157_17 (jj_le rfl) (jj_le rfl)

set_option maxHeartbeats 4000000 in
set_option maxRecDepth 100000 in
theorem ct_J0_checkIndex_df160_s2 {l : Launch} (hl : l.stackTraces = false) (D : va_G) (cA : Nat → ClassId) (ak : (Nat → Nat) × (Nat → Nat)) : jj_M l D cA ak yJ0_checkIndex_df160 (.code yJ0_checkIndex_df160 cJ0_checkIndex_df160 2 none) 1 22 0 0 [] [.int 1, .int 4] (fun (w : va_W) (r : Option Value) => (w = [] ∧ r = none)) jj_noX := by
  refine jj_start hl (by decide) jw_73f64df4e3 (jj_le rfl) ?_
  intro p e s m args below meth c A hargs hA C hex hmn
  refine jj_iload_n C dJ0_checkIndex_df160_0 rfl ?_
  refine jj_iload_n C dJ0_checkIndex_df160_1 rfl ?_
  refine jj_gfm C jw_040150fc39 dJ0_checkIndex_df160_2 (fun t_1 => ?_) ?_
  · refine jq_callS (rest := []) C (ct_J3_checkIndex_8e157_s3 hl D cA ak t_1) [] [] rfl rfl (by decide) (by decide) (by decide) jw_a7a8b385a1 jw_8d35bed6b0 jw_2c7dffdd00 jw_da9869a695 jn_J3_checkIndex_8e157 rfl (jj_le rfl) (jj_le rfl) (jj_le rfl) (jj_le rfl) (jj_le rfl) dJ0_checkIndex_df160_5 rfl (fun _ _ hX => hX.elim) (fun w1 r O_3 => ?_)
    obtain ⟨rfl, rfl⟩ := O_3
    refine jj_apd rfl ?_
    refine jj_pop C dJ0_checkIndex_df160_8 rfl ?_
    exact jj_vret C ⟨rfl, rfl⟩ dJ0_checkIndex_df160_9 (jj_le rfl) (jj_le rfl)
  · refine jq_callS (rest := []) C (ct_J3_checkIndex_8e157_s4 hl D cA ak) [] [] rfl rfl (by decide) (by decide) (by decide) jw_a7a8b385a1 jw_8d35bed6b0 jw_2c7dffdd00 jw_da9869a695 jn_J3_checkIndex_8e157 rfl (jj_le rfl) (jj_le rfl) (jj_le rfl) (jj_le rfl) (jj_le rfl) dJ0_checkIndex_df160_5 rfl (fun _ _ hX => hX.elim) (fun w1 r O_5 => ?_)
    obtain ⟨rfl, rfl⟩ := O_5
    refine jj_apd rfl ?_
    refine jj_pop C dJ0_checkIndex_df160_8 rfl ?_
    exact jj_vret C ⟨rfl, rfl⟩ dJ0_checkIndex_df160_9 (jj_le rfl) (jj_le rfl)

set_option maxHeartbeats 4000000 in
set_option maxRecDepth 100000 in
theorem ct_J1_charAt_3b067_s2 {l : Launch} (hl : l.stackTraces = false) (D : va_G) (cA : Nat → ClassId) (ak : (Nat → Nat) × (Nat → Nat)) : jj_M l D cA ak yJ1_charAt_3b067 (.code yJ1_charAt_3b067 cJ1_charAt_3b067 2 (some .char)) 2 43 0 0 [] [.ref (ak.2 33), .int 1] (fun (w : va_W) (r : Option Value) => (w = [] ∧ r = some (.int 97))) jj_noX := by
  refine jj_start hl (by decide) jw_6996a9eac3 (jj_le rfl) ?_
  intro p e s m args below meth c A hargs hA C hex hmn
  refine jj_iload_n C dJ1_charAt_3b067_0 rfl ?_
  refine jj_aload_n C dJ1_charAt_3b067_1 rfl ?_
  refine jj_slen (k := 33) (v := 4) C (by decide) (by decide) dJ1_charAt_3b067_2 ?_
  refine jq_callS (rest := []) C (ct_J0_checkIndex_df160_s2 hl D cA ak) [] [] rfl rfl (by decide) (by decide) (by decide) jw_763fabfbf2 jw_9aa540e9dd jw_4ea6285965 jw_73f64df4e3 jn_J0_checkIndex_df160 rfl (jj_le rfl) (jj_le rfl) (jj_le rfl) (jj_le rfl) (jj_le rfl) dJ1_charAt_3b067_3 rfl (fun _ _ hX => hX.elim) (fun w1 r O_2 => ?_)
  obtain ⟨rfl, rfl⟩ := O_2
  refine jj_apd rfl ?_
  refine jj_aload_n C dJ1_charAt_3b067_6 rfl ?_
  refine jj_iload_n C dJ1_charAt_3b067_7 rfl ?_
  refine jj_sbyt (k := 33) (v := 97) C (by decide) (vp_in_iff.mpr (by decide)) (by decide) dJ1_charAt_3b067_8 ?_
  refine jj_sipush (v := 255) C dJ1_charAt_3b067_9 (by decide) ?_
  refine jj_iand (v := 97) C dJ1_charAt_3b067_12 (by decide) ?_
  refine jj_i2c (v := 97) C dJ1_charAt_3b067_13 (by decide) ?_
  exact jj_zret C rfl ⟨rfl, rfl⟩ dJ1_charAt_3b067_14 (jj_le rfl) (jj_le rfl)

set_option maxHeartbeats 4000000 in
set_option maxRecDepth 100000 in
theorem ct_J0_charAt_5068e_s2 {l : Launch} (hl : l.stackTraces = false) (D : va_G) (cA : Nat → ClassId) (ak : (Nat → Nat) × (Nat → Nat)) : jj_M l D cA ak yJ0_charAt_5068e (.code yJ0_charAt_5068e cJ0_charAt_5068e 2 (some .char)) 3 64 0 0 [] [.ref (ak.1 33), .int 1] (fun (w : va_W) (r : Option Value) => (w = [] ∧ r = some (.int 97))) jj_noX := by
  refine jj_start hl (by decide) jw_391c0f56bd (jj_le rfl) ?_
  intro p e s m args below meth c A hargs hA C hex hmn
  refine jj_aload_n C dJ0_charAt_5068e_0 rfl ?_
  refine jq_callVs (rest := []) C (ct_J0_isLatin1_aae02_s1 hl D cA ak) [] [] rfl rfl (by decide) (by decide) (by decide) 33 (by decide) rfl jw_5ca960aa2e jw_b7ba7c03ae jw_c4fe6f1e08 jw_4ea6285965 jw_1aa7753999 jn_J0_isLatin1_aae02 rfl (jj_le rfl) (jj_le rfl) (jj_le rfl) (jj_le rfl) (jj_le rfl) dJ0_charAt_5068e_1 rfl (fun _ _ hX => hX.elim) (fun w1 r O_2 => ?_)
  obtain ⟨rfl, rfl⟩ := O_2
  refine jj_apd rfl ?_
  refine jj_if_eqF (tgt := 16) C dJ0_charAt_5068e_4 (by decide) (by decide) ?_
  refine jj_aload_n C dJ0_charAt_5068e_7 rfl ?_
  refine jj_sval (k := 33) C (by decide) jw_90a506b1c3 dJ0_charAt_5068e_8 ?_
  refine jj_iload_n C dJ0_charAt_5068e_11 rfl ?_
  refine jq_callS (rest := []) C (ct_J1_charAt_3b067_s2 hl D cA ak) [] [] rfl rfl (by decide) (by decide) (by decide) jw_7e2463d496 jw_530d7ac64c jw_2a3a2ce6ce jw_6996a9eac3 jn_J1_charAt_3b067 rfl (jj_le rfl) (jj_le rfl) (jj_le rfl) (jj_le rfl) (jj_le rfl) dJ0_charAt_5068e_12 rfl (fun _ _ hX => hX.elim) (fun w1 r O_4 => ?_)
  obtain ⟨rfl, rfl⟩ := O_4
  refine jj_apd rfl ?_
  exact jj_zret C rfl ⟨rfl, rfl⟩ dJ0_charAt_5068e_15 (jj_le rfl) (jj_le rfl)

set_option maxHeartbeats 4000000 in
set_option maxRecDepth 100000 in
theorem ct_J3_checkIndex_8e157_s5 {l : Launch} (hl : l.stackTraces = false) (D : va_G) (cA : Nat → ClassId) (ak : (Nat → Nat) × (Nat → Nat)) (h0 : Nat) : jj_M l D cA ak yJ3_checkIndex_8e157 (.code yJ3_checkIndex_8e157 cJ3_checkIndex_8e157 3 (some .int)) 0 0 0 0 [] [.int 2, .int 4, .ref h0] (fun (w : va_W) (r : Option Value) => (w = [] ∧ r = some (.int 2))) jj_noX := by
  refine jj_start hl (by decide) jw_da9869a695 (jj_le rfl) ?_
  intro p e s m args below meth c A hargs hA C hex hmn
  refine jj_iload_n C dJ3_checkIndex_8e157_0 rfl ?_
  refine jj_if_ltF (tgt := 9) C dJ3_checkIndex_8e157_1 (by decide) (by decide) ?_
  refine jj_iload_n C dJ3_checkIndex_8e157_4 rfl ?_
  refine jj_iload_n C dJ3_checkIndex_8e157_5 rfl ?_
  refine jj_icmp_ltT (tgt := 16) C dJ3_checkIndex_8e157_6 (by decide) (by decide) ?_
  refine jj_iload_n C dJ3_checkIndex_8e157_16 rfl ?_
  exact jj_iret C ⟨rfl, rfl⟩ dJ3_checkIndex_8e157_17 (jj_le rfl) (jj_le rfl)

set_option maxHeartbeats 4000000 in
set_option maxRecDepth 100000 in
theorem ct_J3_checkIndex_8e157_s6 {l : Launch} (hl : l.stackTraces = false) (D : va_G) (cA : Nat → ClassId) (ak : (Nat → Nat) × (Nat → Nat)) : jj_M l D cA ak yJ3_checkIndex_8e157 (.code yJ3_checkIndex_8e157 cJ3_checkIndex_8e157 3 (some .int)) 0 0 0 0 [] [.int 2, .int 4, .null] (fun (w : va_W) (r : Option Value) => (w = [] ∧ r = some (.int 2))) jj_noX := by
  refine jj_start hl (by decide) jw_da9869a695 (jj_le rfl) ?_
  intro p e s m args below meth c A hargs hA C hex hmn
  refine jj_iload_n C dJ3_checkIndex_8e157_0 rfl ?_
  refine jj_if_ltF (tgt := 9) C dJ3_checkIndex_8e157_1 (by decide) (by decide) ?_
  refine jj_iload_n C dJ3_checkIndex_8e157_4 rfl ?_
  refine jj_iload_n C dJ3_checkIndex_8e157_5 rfl ?_
  refine jj_icmp_ltT (tgt := 16) C dJ3_checkIndex_8e157_6 (by decide) (by decide) ?_
  refine jj_iload_n C dJ3_checkIndex_8e157_16 rfl ?_
  exact jj_iret C ⟨rfl, rfl⟩ dJ3_checkIndex_8e157_17 (jj_le rfl) (jj_le rfl)

set_option maxHeartbeats 4000000 in
set_option maxRecDepth 100000 in
theorem ct_J0_checkIndex_df160_s3 {l : Launch} (hl : l.stackTraces = false) (D : va_G) (cA : Nat → ClassId) (ak : (Nat → Nat) × (Nat → Nat)) : jj_M l D cA ak yJ0_checkIndex_df160 (.code yJ0_checkIndex_df160 cJ0_checkIndex_df160 2 none) 1 22 0 0 [] [.int 2, .int 4] (fun (w : va_W) (r : Option Value) => (w = [] ∧ r = none)) jj_noX := by
  refine jj_start hl (by decide) jw_73f64df4e3 (jj_le rfl) ?_
  intro p e s m args below meth c A hargs hA C hex hmn
  refine jj_iload_n C dJ0_checkIndex_df160_0 rfl ?_
  refine jj_iload_n C dJ0_checkIndex_df160_1 rfl ?_
  refine jj_gfm C jw_040150fc39 dJ0_checkIndex_df160_2 (fun t_1 => ?_) ?_
  · refine jq_callS (rest := []) C (ct_J3_checkIndex_8e157_s5 hl D cA ak t_1) [] [] rfl rfl (by decide) (by decide) (by decide) jw_a7a8b385a1 jw_8d35bed6b0 jw_2c7dffdd00 jw_da9869a695 jn_J3_checkIndex_8e157 rfl (jj_le rfl) (jj_le rfl) (jj_le rfl) (jj_le rfl) (jj_le rfl) dJ0_checkIndex_df160_5 rfl (fun _ _ hX => hX.elim) (fun w1 r O_3 => ?_)
    obtain ⟨rfl, rfl⟩ := O_3
    refine jj_apd rfl ?_
    refine jj_pop C dJ0_checkIndex_df160_8 rfl ?_
    exact jj_vret C ⟨rfl, rfl⟩ dJ0_checkIndex_df160_9 (jj_le rfl) (jj_le rfl)
  · refine jq_callS (rest := []) C (ct_J3_checkIndex_8e157_s6 hl D cA ak) [] [] rfl rfl (by decide) (by decide) (by decide) jw_a7a8b385a1 jw_8d35bed6b0 jw_2c7dffdd00 jw_da9869a695 jn_J3_checkIndex_8e157 rfl (jj_le rfl) (jj_le rfl) (jj_le rfl) (jj_le rfl) (jj_le rfl) dJ0_checkIndex_df160_5 rfl (fun _ _ hX => hX.elim) (fun w1 r O_5 => ?_)
    obtain ⟨rfl, rfl⟩ := O_5
    refine jj_apd rfl ?_
    refine jj_pop C dJ0_checkIndex_df160_8 rfl ?_
    exact jj_vret C ⟨rfl, rfl⟩ dJ0_checkIndex_df160_9 (jj_le rfl) (jj_le rfl)

set_option maxHeartbeats 4000000 in
set_option maxRecDepth 100000 in
theorem ct_J1_charAt_3b067_s3 {l : Launch} (hl : l.stackTraces = false) (D : va_G) (cA : Nat → ClassId) (ak : (Nat → Nat) × (Nat → Nat)) : jj_M l D cA ak yJ1_charAt_3b067 (.code yJ1_charAt_3b067 cJ1_charAt_3b067 2 (some .char)) 2 43 0 0 [] [.ref (ak.2 33), .int 2] (fun (w : va_W) (r : Option Value) => (w = [] ∧ r = some (.int 121))) jj_noX := by
  refine jj_start hl (by decide) jw_6996a9eac3 (jj_le rfl) ?_
  intro p e s m args below meth c A hargs hA C hex hmn
  refine jj_iload_n C dJ1_charAt_3b067_0 rfl ?_
  refine jj_aload_n C dJ1_charAt_3b067_1 rfl ?_
  refine jj_slen (k := 33) (v := 4) C (by decide) (by decide) dJ1_charAt_3b067_2 ?_
  refine jq_callS (rest := []) C (ct_J0_checkIndex_df160_s3 hl D cA ak) [] [] rfl rfl (by decide) (by decide) (by decide) jw_763fabfbf2 jw_9aa540e9dd jw_4ea6285965 jw_73f64df4e3 jn_J0_checkIndex_df160 rfl (jj_le rfl) (jj_le rfl) (jj_le rfl) (jj_le rfl) (jj_le rfl) dJ1_charAt_3b067_3 rfl (fun _ _ hX => hX.elim) (fun w1 r O_2 => ?_)
  obtain ⟨rfl, rfl⟩ := O_2
  refine jj_apd rfl ?_
  refine jj_aload_n C dJ1_charAt_3b067_6 rfl ?_
  refine jj_iload_n C dJ1_charAt_3b067_7 rfl ?_
  refine jj_sbyt (k := 33) (v := 121) C (by decide) (vp_in_iff.mpr (by decide)) (by decide) dJ1_charAt_3b067_8 ?_
  refine jj_sipush (v := 255) C dJ1_charAt_3b067_9 (by decide) ?_
  refine jj_iand (v := 121) C dJ1_charAt_3b067_12 (by decide) ?_
  refine jj_i2c (v := 121) C dJ1_charAt_3b067_13 (by decide) ?_
  exact jj_zret C rfl ⟨rfl, rfl⟩ dJ1_charAt_3b067_14 (jj_le rfl) (jj_le rfl)

set_option maxHeartbeats 4000000 in
set_option maxRecDepth 100000 in
theorem ct_J0_charAt_5068e_s3 {l : Launch} (hl : l.stackTraces = false) (D : va_G) (cA : Nat → ClassId) (ak : (Nat → Nat) × (Nat → Nat)) : jj_M l D cA ak yJ0_charAt_5068e (.code yJ0_charAt_5068e cJ0_charAt_5068e 2 (some .char)) 3 64 0 0 [] [.ref (ak.1 33), .int 2] (fun (w : va_W) (r : Option Value) => (w = [] ∧ r = some (.int 121))) jj_noX := by
  refine jj_start hl (by decide) jw_391c0f56bd (jj_le rfl) ?_
  intro p e s m args below meth c A hargs hA C hex hmn
  refine jj_aload_n C dJ0_charAt_5068e_0 rfl ?_
  refine jq_callVs (rest := []) C (ct_J0_isLatin1_aae02_s1 hl D cA ak) [] [] rfl rfl (by decide) (by decide) (by decide) 33 (by decide) rfl jw_5ca960aa2e jw_b7ba7c03ae jw_c4fe6f1e08 jw_4ea6285965 jw_1aa7753999 jn_J0_isLatin1_aae02 rfl (jj_le rfl) (jj_le rfl) (jj_le rfl) (jj_le rfl) (jj_le rfl) dJ0_charAt_5068e_1 rfl (fun _ _ hX => hX.elim) (fun w1 r O_2 => ?_)
  obtain ⟨rfl, rfl⟩ := O_2
  refine jj_apd rfl ?_
  refine jj_if_eqF (tgt := 16) C dJ0_charAt_5068e_4 (by decide) (by decide) ?_
  refine jj_aload_n C dJ0_charAt_5068e_7 rfl ?_
  refine jj_sval (k := 33) C (by decide) jw_90a506b1c3 dJ0_charAt_5068e_8 ?_
  refine jj_iload_n C dJ0_charAt_5068e_11 rfl ?_
  refine jq_callS (rest := []) C (ct_J1_charAt_3b067_s3 hl D cA ak) [] [] rfl rfl (by decide) (by decide) (by decide) jw_7e2463d496 jw_530d7ac64c jw_2a3a2ce6ce jw_6996a9eac3 jn_J1_charAt_3b067 rfl (jj_le rfl) (jj_le rfl) (jj_le rfl) (jj_le rfl) (jj_le rfl) dJ0_charAt_5068e_12 rfl (fun _ _ hX => hX.elim) (fun w1 r O_4 => ?_)
  obtain ⟨rfl, rfl⟩ := O_4
  refine jj_apd rfl ?_
  exact jj_zret C rfl ⟨rfl, rfl⟩ dJ0_charAt_5068e_15 (jj_le rfl) (jj_le rfl)

set_option maxHeartbeats 4000000 in
set_option maxRecDepth 100000 in
theorem ct_J3_checkIndex_8e157_s7 {l : Launch} (hl : l.stackTraces = false) (D : va_G) (cA : Nat → ClassId) (ak : (Nat → Nat) × (Nat → Nat)) (h0 : Nat) : jj_M l D cA ak yJ3_checkIndex_8e157 (.code yJ3_checkIndex_8e157 cJ3_checkIndex_8e157 3 (some .int)) 0 0 0 0 [] [.int 3, .int 4, .ref h0] (fun (w : va_W) (r : Option Value) => (w = [] ∧ r = some (.int 3))) jj_noX := by
  refine jj_start hl (by decide) jw_da9869a695 (jj_le rfl) ?_
  intro p e s m args below meth c A hargs hA C hex hmn
  refine jj_iload_n C dJ3_checkIndex_8e157_0 rfl ?_
  refine jj_if_ltF (tgt := 9) C dJ3_checkIndex_8e157_1 (by decide) (by decide) ?_
  refine jj_iload_n C dJ3_checkIndex_8e157_4 rfl ?_
  refine jj_iload_n C dJ3_checkIndex_8e157_5 rfl ?_
  refine jj_icmp_ltT (tgt := 16) C dJ3_checkIndex_8e157_6 (by decide) (by decide) ?_
  refine jj_iload_n C dJ3_checkIndex_8e157_16 rfl ?_
  exact jj_iret C ⟨rfl, rfl⟩ dJ3_checkIndex_8e157_17 (jj_le rfl) (jj_le rfl)

set_option maxHeartbeats 4000000 in
set_option maxRecDepth 100000 in
theorem ct_J3_checkIndex_8e157_s8 {l : Launch} (hl : l.stackTraces = false) (D : va_G) (cA : Nat → ClassId) (ak : (Nat → Nat) × (Nat → Nat)) : jj_M l D cA ak yJ3_checkIndex_8e157 (.code yJ3_checkIndex_8e157 cJ3_checkIndex_8e157 3 (some .int)) 0 0 0 0 [] [.int 3, .int 4, .null] (fun (w : va_W) (r : Option Value) => (w = [] ∧ r = some (.int 3))) jj_noX := by
  refine jj_start hl (by decide) jw_da9869a695 (jj_le rfl) ?_
  intro p e s m args below meth c A hargs hA C hex hmn
  refine jj_iload_n C dJ3_checkIndex_8e157_0 rfl ?_
  refine jj_if_ltF (tgt := 9) C dJ3_checkIndex_8e157_1 (by decide) (by decide) ?_
  refine jj_iload_n C dJ3_checkIndex_8e157_4 rfl ?_
  refine jj_iload_n C dJ3_checkIndex_8e157_5 rfl ?_
  refine jj_icmp_ltT (tgt := 16) C dJ3_checkIndex_8e157_6 (by decide) (by decide) ?_
  refine jj_iload_n C dJ3_checkIndex_8e157_16 rfl ?_
  exact jj_iret C ⟨rfl, rfl⟩ dJ3_checkIndex_8e157_17 (jj_le rfl) (jj_le rfl)

set_option maxHeartbeats 4000000 in
set_option maxRecDepth 100000 in
theorem ct_J0_checkIndex_df160_s4 {l : Launch} (hl : l.stackTraces = false) (D : va_G) (cA : Nat → ClassId) (ak : (Nat → Nat) × (Nat → Nat)) : jj_M l D cA ak yJ0_checkIndex_df160 (.code yJ0_checkIndex_df160 cJ0_checkIndex_df160 2 none) 1 22 0 0 [] [.int 3, .int 4] (fun (w : va_W) (r : Option Value) => (w = [] ∧ r = none)) jj_noX := by
  refine jj_start hl (by decide) jw_73f64df4e3 (jj_le rfl) ?_
  intro p e s m args below meth c A hargs hA C hex hmn
  refine jj_iload_n C dJ0_checkIndex_df160_0 rfl ?_
  refine jj_iload_n C dJ0_checkIndex_df160_1 rfl ?_
  refine jj_gfm C jw_040150fc39 dJ0_checkIndex_df160_2 (fun t_1 => ?_) ?_
  · refine jq_callS (rest := []) C (ct_J3_checkIndex_8e157_s7 hl D cA ak t_1) [] [] rfl rfl (by decide) (by decide) (by decide) jw_a7a8b385a1 jw_8d35bed6b0 jw_2c7dffdd00 jw_da9869a695 jn_J3_checkIndex_8e157 rfl (jj_le rfl) (jj_le rfl) (jj_le rfl) (jj_le rfl) (jj_le rfl) dJ0_checkIndex_df160_5 rfl (fun _ _ hX => hX.elim) (fun w1 r O_3 => ?_)
    obtain ⟨rfl, rfl⟩ := O_3
    refine jj_apd rfl ?_
    refine jj_pop C dJ0_checkIndex_df160_8 rfl ?_
    exact jj_vret C ⟨rfl, rfl⟩ dJ0_checkIndex_df160_9 (jj_le rfl) (jj_le rfl)
  · refine jq_callS (rest := []) C (ct_J3_checkIndex_8e157_s8 hl D cA ak) [] [] rfl rfl (by decide) (by decide) (by decide) jw_a7a8b385a1 jw_8d35bed6b0 jw_2c7dffdd00 jw_da9869a695 jn_J3_checkIndex_8e157 rfl (jj_le rfl) (jj_le rfl) (jj_le rfl) (jj_le rfl) (jj_le rfl) dJ0_checkIndex_df160_5 rfl (fun _ _ hX => hX.elim) (fun w1 r O_5 => ?_)
    obtain ⟨rfl, rfl⟩ := O_5
    refine jj_apd rfl ?_
    refine jj_pop C dJ0_checkIndex_df160_8 rfl ?_
    exact jj_vret C ⟨rfl, rfl⟩ dJ0_checkIndex_df160_9 (jj_le rfl) (jj_le rfl)

set_option maxHeartbeats 4000000 in
set_option maxRecDepth 100000 in
theorem ct_J1_charAt_3b067_s4 {l : Launch} (hl : l.stackTraces = false) (D : va_G) (cA : Nat → ClassId) (ak : (Nat → Nat) × (Nat → Nat)) : jj_M l D cA ak yJ1_charAt_3b067 (.code yJ1_charAt_3b067 cJ1_charAt_3b067 2 (some .char)) 2 43 0 0 [] [.ref (ak.2 33), .int 3] (fun (w : va_W) (r : Option Value) => (w = [] ∧ r = some (.int 32))) jj_noX := by
  refine jj_start hl (by decide) jw_6996a9eac3 (jj_le rfl) ?_
  intro p e s m args below meth c A hargs hA C hex hmn
  refine jj_iload_n C dJ1_charAt_3b067_0 rfl ?_
  refine jj_aload_n C dJ1_charAt_3b067_1 rfl ?_
  refine jj_slen (k := 33) (v := 4) C (by decide) (by decide) dJ1_charAt_3b067_2 ?_
  refine jq_callS (rest := []) C (ct_J0_checkIndex_df160_s4 hl D cA ak) [] [] rfl rfl (by decide) (by decide) (by decide) jw_763fabfbf2 jw_9aa540e9dd jw_4ea6285965 jw_73f64df4e3 jn_J0_checkIndex_df160 rfl (jj_le rfl) (jj_le rfl) (jj_le rfl) (jj_le rfl) (jj_le rfl) dJ1_charAt_3b067_3 rfl (fun _ _ hX => hX.elim) (fun w1 r O_2 => ?_)
  obtain ⟨rfl, rfl⟩ := O_2
  refine jj_apd rfl ?_
  refine jj_aload_n C dJ1_charAt_3b067_6 rfl ?_
  refine jj_iload_n C dJ1_charAt_3b067_7 rfl ?_
  refine jj_sbyt (k := 33) (v := 32) C (by decide) (vp_in_iff.mpr (by decide)) (by decide) dJ1_charAt_3b067_8 ?_
  refine jj_sipush (v := 255) C dJ1_charAt_3b067_9 (by decide) ?_
  refine jj_iand (v := 32) C dJ1_charAt_3b067_12 (by decide) ?_
  refine jj_i2c (v := 32) C dJ1_charAt_3b067_13 (by decide) ?_
  exact jj_zret C rfl ⟨rfl, rfl⟩ dJ1_charAt_3b067_14 (jj_le rfl) (jj_le rfl)

set_option maxHeartbeats 4000000 in
set_option maxRecDepth 100000 in
theorem ct_J0_charAt_5068e_s4 {l : Launch} (hl : l.stackTraces = false) (D : va_G) (cA : Nat → ClassId) (ak : (Nat → Nat) × (Nat → Nat)) : jj_M l D cA ak yJ0_charAt_5068e (.code yJ0_charAt_5068e cJ0_charAt_5068e 2 (some .char)) 3 64 0 0 [] [.ref (ak.1 33), .int 3] (fun (w : va_W) (r : Option Value) => (w = [] ∧ r = some (.int 32))) jj_noX := by
  refine jj_start hl (by decide) jw_391c0f56bd (jj_le rfl) ?_
  intro p e s m args below meth c A hargs hA C hex hmn
  refine jj_aload_n C dJ0_charAt_5068e_0 rfl ?_
  refine jq_callVs (rest := []) C (ct_J0_isLatin1_aae02_s1 hl D cA ak) [] [] rfl rfl (by decide) (by decide) (by decide) 33 (by decide) rfl jw_5ca960aa2e jw_b7ba7c03ae jw_c4fe6f1e08 jw_4ea6285965 jw_1aa7753999 jn_J0_isLatin1_aae02 rfl (jj_le rfl) (jj_le rfl) (jj_le rfl) (jj_le rfl) (jj_le rfl) dJ0_charAt_5068e_1 rfl (fun _ _ hX => hX.elim) (fun w1 r O_2 => ?_)
  obtain ⟨rfl, rfl⟩ := O_2
  refine jj_apd rfl ?_
  refine jj_if_eqF (tgt := 16) C dJ0_charAt_5068e_4 (by decide) (by decide) ?_
  refine jj_aload_n C dJ0_charAt_5068e_7 rfl ?_
  refine jj_sval (k := 33) C (by decide) jw_90a506b1c3 dJ0_charAt_5068e_8 ?_
  refine jj_iload_n C dJ0_charAt_5068e_11 rfl ?_
  refine jq_callS (rest := []) C (ct_J1_charAt_3b067_s4 hl D cA ak) [] [] rfl rfl (by decide) (by decide) (by decide) jw_7e2463d496 jw_530d7ac64c jw_2a3a2ce6ce jw_6996a9eac3 jn_J1_charAt_3b067 rfl (jj_le rfl) (jj_le rfl) (jj_le rfl) (jj_le rfl) (jj_le rfl) dJ0_charAt_5068e_12 rfl (fun _ _ hX => hX.elim) (fun w1 r O_4 => ?_)
  obtain ⟨rfl, rfl⟩ := O_4
  refine jj_apd rfl ?_
  exact jj_zret C rfl ⟨rfl, rfl⟩ dJ0_charAt_5068e_15 (jj_le rfl) (jj_le rfl)

set_option maxHeartbeats 4000000 in
set_option maxRecDepth 100000 in
theorem ct_J0_coder_7d493_s2 {l : Launch} (hl : l.stackTraces = false) (D : va_G) (cA : Nat → ClassId) (ak : (Nat → Nat) × (Nat → Nat)) : jj_M l D cA ak yJ0_coder_7d493 (.code yJ0_coder_7d493 cJ0_coder_7d493 1 (some .byte)) 0 0 0 0 [] [.ref (ak.1 34)] (fun (w : va_W) (r : Option Value) => (w = [] ∧ r = some (.int 0))) jj_noX := by
  refine jj_start hl (by decide) jw_084b973d83 (jj_le rfl) ?_
  intro p e s m args below meth c A hargs hA C hex hmn
  refine jj_gcs C jw_478bb18c33 dJ0_coder_7d493_0 ?_
  refine jj_if_eqF (tgt := 13) C dJ0_coder_7d493_3 (by decide) (by decide) ?_
  refine jj_aload_n C dJ0_coder_7d493_6 rfl ?_
  refine jj_scod (k := 34) C (by decide) jw_7816d6e515 dJ0_coder_7d493_7 ?_
  refine jj_goto (tgt := 14) C dJ0_coder_7d493_10 (by decide) ?_
  exact jj_zret C rfl ⟨rfl, rfl⟩ dJ0_coder_7d493_14 (jj_le rfl) (jj_le rfl)

set_option maxHeartbeats 4000000 in
set_option maxRecDepth 100000 in
theorem ct_J0_length_8abf5_s2 {l : Launch} (hl : l.stackTraces = false) (D : va_G) (cA : Nat → ClassId) (ak : (Nat → Nat) × (Nat → Nat)) : jj_M l D cA ak yJ0_length_8abf5 (.code yJ0_length_8abf5 cJ0_length_8abf5 1 (some .int)) 1 20 0 0 [] [.ref (ak.1 34)] (fun (w : va_W) (r : Option Value) => (w = [] ∧ r = some (.int 8))) jj_noX := by
  refine jj_start hl (by decide) jw_bbc7045666 (jj_le rfl) ?_
  intro p e s m args below meth c A hargs hA C hex hmn
  refine jj_aload_n C dJ0_length_8abf5_0 rfl ?_
  refine jj_sval (k := 34) C (by decide) jw_90a506b1c3 dJ0_length_8abf5_1 ?_
  refine jj_slen (k := 34) (v := 8) C (by decide) (by decide) dJ0_length_8abf5_4 ?_
  refine jj_aload_n C dJ0_length_8abf5_5 rfl ?_
  refine jq_callVs (rest := [.int 8]) C (ct_J0_coder_7d493_s2 hl D cA ak) [] [] rfl rfl (by decide) (by decide) (by decide) 34 (by decide) rfl jw_f46b3464d2 jw_35edddbded jw_31f76f5b78 jw_4ea6285965 jw_084b973d83 jn_J0_coder_7d493 rfl (jj_le rfl) (jj_le rfl) (jj_le rfl) (jj_le rfl) (jj_le rfl) dJ0_length_8abf5_6 rfl (fun _ _ hX => hX.elim) (fun w1 r O_2 => ?_)
  obtain ⟨rfl, rfl⟩ := O_2
  refine jj_apd rfl ?_
  refine jj_ishr (v := 8) C dJ0_length_8abf5_9 (by decide) ?_
  exact jj_iret C ⟨rfl, rfl⟩ dJ0_length_8abf5_10 (jj_le rfl) (jj_le rfl)

set_option maxHeartbeats 4000000 in
set_option maxRecDepth 100000 in
theorem ct_J0_isLatin1_aae02_s2 {l : Launch} (hl : l.stackTraces = false) (D : va_G) (cA : Nat → ClassId) (ak : (Nat → Nat) × (Nat → Nat)) : jj_M l D cA ak yJ0_isLatin1_aae02 (.code yJ0_isLatin1_aae02 cJ0_isLatin1_aae02 1 (some .boolean)) 0 0 0 0 [] [.ref (ak.1 34)] (fun (w : va_W) (r : Option Value) => (w = [] ∧ r = some (.int 1))) jj_noX := by
  refine jj_start hl (by decide) jw_1aa7753999 (jj_le rfl) ?_
  intro p e s m args below meth c A hargs hA C hex hmn
  refine jj_gcs C jw_478bb18c33 dJ0_isLatin1_aae02_0 ?_
  refine jj_if_eqF (tgt := 17) C dJ0_isLatin1_aae02_3 (by decide) (by decide) ?_
  refine jj_aload_n C dJ0_isLatin1_aae02_6 rfl ?_
  refine jj_scod (k := 34) C (by decide) jw_7816d6e515 dJ0_isLatin1_aae02_7 ?_
  refine jj_if_neF (tgt := 17) C dJ0_isLatin1_aae02_10 (by decide) (by decide) ?_
  refine jj_iconst (v := 1) C dJ0_isLatin1_aae02_13 (by decide) ?_
  refine jj_goto (tgt := 18) C dJ0_isLatin1_aae02_14 (by decide) ?_
  exact jj_zret C rfl ⟨rfl, rfl⟩ dJ0_isLatin1_aae02_18 (jj_le rfl) (jj_le rfl)

set_option maxHeartbeats 4000000 in
set_option maxRecDepth 100000 in
theorem ct_J3_checkIndex_8e157_s9 {l : Launch} (hl : l.stackTraces = false) (D : va_G) (cA : Nat → ClassId) (ak : (Nat → Nat) × (Nat → Nat)) (h0 : Nat) : jj_M l D cA ak yJ3_checkIndex_8e157 (.code yJ3_checkIndex_8e157 cJ3_checkIndex_8e157 3 (some .int)) 0 0 0 0 [] [.int 0, .int 8, .ref h0] (fun (w : va_W) (r : Option Value) => (w = [] ∧ r = some (.int 0))) jj_noX := by
  refine jj_start hl (by decide) jw_da9869a695 (jj_le rfl) ?_
  intro p e s m args below meth c A hargs hA C hex hmn
  refine jj_iload_n C dJ3_checkIndex_8e157_0 rfl ?_
  refine jj_if_ltF (tgt := 9) C dJ3_checkIndex_8e157_1 (by decide) (by decide) ?_
  refine jj_iload_n C dJ3_checkIndex_8e157_4 rfl ?_
  refine jj_iload_n C dJ3_checkIndex_8e157_5 rfl ?_
  refine jj_icmp_ltT (tgt := 16) C dJ3_checkIndex_8e157_6 (by decide) (by decide) ?_
  refine jj_iload_n C dJ3_checkIndex_8e157_16 rfl ?_
  exact jj_iret C ⟨rfl, rfl⟩ dJ3_checkIndex_8e157_17 (jj_le rfl) (jj_le rfl)

set_option maxHeartbeats 4000000 in
set_option maxRecDepth 100000 in
theorem ct_J3_checkIndex_8e157_s10 {l : Launch} (hl : l.stackTraces = false) (D : va_G) (cA : Nat → ClassId) (ak : (Nat → Nat) × (Nat → Nat)) : jj_M l D cA ak yJ3_checkIndex_8e157 (.code yJ3_checkIndex_8e157 cJ3_checkIndex_8e157 3 (some .int)) 0 0 0 0 [] [.int 0, .int 8, .null] (fun (w : va_W) (r : Option Value) => (w = [] ∧ r = some (.int 0))) jj_noX := by
  refine jj_start hl (by decide) jw_da9869a695 (jj_le rfl) ?_
  intro p e s m args below meth c A hargs hA C hex hmn
  refine jj_iload_n C dJ3_checkIndex_8e157_0 rfl ?_
  refine jj_if_ltF (tgt := 9) C dJ3_checkIndex_8e157_1 (by decide) (by decide) ?_
  refine jj_iload_n C dJ3_checkIndex_8e157_4 rfl ?_
  refine jj_iload_n C dJ3_checkIndex_8e157_5 rfl ?_
  refine jj_icmp_ltT (tgt := 16) C dJ3_checkIndex_8e157_6 (by decide) (by decide) ?_
  refine jj_iload_n C dJ3_checkIndex_8e157_16 rfl ?_
  exact jj_iret C ⟨rfl, rfl⟩ dJ3_checkIndex_8e157_17 (jj_le rfl) (jj_le rfl)

set_option maxHeartbeats 4000000 in
set_option maxRecDepth 100000 in
theorem ct_J0_checkIndex_df160_s5 {l : Launch} (hl : l.stackTraces = false) (D : va_G) (cA : Nat → ClassId) (ak : (Nat → Nat) × (Nat → Nat)) : jj_M l D cA ak yJ0_checkIndex_df160 (.code yJ0_checkIndex_df160 cJ0_checkIndex_df160 2 none) 1 22 0 0 [] [.int 0, .int 8] (fun (w : va_W) (r : Option Value) => (w = [] ∧ r = none)) jj_noX := by
  refine jj_start hl (by decide) jw_73f64df4e3 (jj_le rfl) ?_
  intro p e s m args below meth c A hargs hA C hex hmn
  refine jj_iload_n C dJ0_checkIndex_df160_0 rfl ?_
  refine jj_iload_n C dJ0_checkIndex_df160_1 rfl ?_
  refine jj_gfm C jw_040150fc39 dJ0_checkIndex_df160_2 (fun t_1 => ?_) ?_
  · refine jq_callS (rest := []) C (ct_J3_checkIndex_8e157_s9 hl D cA ak t_1) [] [] rfl rfl (by decide) (by decide) (by decide) jw_a7a8b385a1 jw_8d35bed6b0 jw_2c7dffdd00 jw_da9869a695 jn_J3_checkIndex_8e157 rfl (jj_le rfl) (jj_le rfl) (jj_le rfl) (jj_le rfl) (jj_le rfl) dJ0_checkIndex_df160_5 rfl (fun _ _ hX => hX.elim) (fun w1 r O_3 => ?_)
    obtain ⟨rfl, rfl⟩ := O_3
    refine jj_apd rfl ?_
    refine jj_pop C dJ0_checkIndex_df160_8 rfl ?_
    exact jj_vret C ⟨rfl, rfl⟩ dJ0_checkIndex_df160_9 (jj_le rfl) (jj_le rfl)
  · refine jq_callS (rest := []) C (ct_J3_checkIndex_8e157_s10 hl D cA ak) [] [] rfl rfl (by decide) (by decide) (by decide) jw_a7a8b385a1 jw_8d35bed6b0 jw_2c7dffdd00 jw_da9869a695 jn_J3_checkIndex_8e157 rfl (jj_le rfl) (jj_le rfl) (jj_le rfl) (jj_le rfl) (jj_le rfl) dJ0_checkIndex_df160_5 rfl (fun _ _ hX => hX.elim) (fun w1 r O_5 => ?_)
    obtain ⟨rfl, rfl⟩ := O_5
    refine jj_apd rfl ?_
    refine jj_pop C dJ0_checkIndex_df160_8 rfl ?_
    exact jj_vret C ⟨rfl, rfl⟩ dJ0_checkIndex_df160_9 (jj_le rfl) (jj_le rfl)

set_option maxHeartbeats 4000000 in
set_option maxRecDepth 100000 in
theorem ct_J1_charAt_3b067_s5 {l : Launch} (hl : l.stackTraces = false) (D : va_G) (cA : Nat → ClassId) (ak : (Nat → Nat) × (Nat → Nat)) : jj_M l D cA ak yJ1_charAt_3b067 (.code yJ1_charAt_3b067 cJ1_charAt_3b067 2 (some .char)) 2 43 0 0 [] [.ref (ak.2 34), .int 0] (fun (w : va_W) (r : Option Value) => (w = [] ∧ r = some (.int 32))) jj_noX := by
  refine jj_start hl (by decide) jw_6996a9eac3 (jj_le rfl) ?_
  intro p e s m args below meth c A hargs hA C hex hmn
  refine jj_iload_n C dJ1_charAt_3b067_0 rfl ?_
  refine jj_aload_n C dJ1_charAt_3b067_1 rfl ?_
  refine jj_slen (k := 34) (v := 8) C (by decide) (by decide) dJ1_charAt_3b067_2 ?_
  refine jq_callS (rest := []) C (ct_J0_checkIndex_df160_s5 hl D cA ak) [] [] rfl rfl (by decide) (by decide) (by decide) jw_763fabfbf2 jw_9aa540e9dd jw_4ea6285965 jw_73f64df4e3 jn_J0_checkIndex_df160 rfl (jj_le rfl) (jj_le rfl) (jj_le rfl) (jj_le rfl) (jj_le rfl) dJ1_charAt_3b067_3 rfl (fun _ _ hX => hX.elim) (fun w1 r O_2 => ?_)
  obtain ⟨rfl, rfl⟩ := O_2
  refine jj_apd rfl ?_
  refine jj_aload_n C dJ1_charAt_3b067_6 rfl ?_
  refine jj_iload_n C dJ1_charAt_3b067_7 rfl ?_
  refine jj_sbyt (k := 34) (v := 32) C (by decide) (vp_in_iff.mpr (by decide)) (by decide) dJ1_charAt_3b067_8 ?_
  refine jj_sipush (v := 255) C dJ1_charAt_3b067_9 (by decide) ?_
  refine jj_iand (v := 32) C dJ1_charAt_3b067_12 (by decide) ?_
  refine jj_i2c (v := 32) C dJ1_charAt_3b067_13 (by decide) ?_
  exact jj_zret C rfl ⟨rfl, rfl⟩ dJ1_charAt_3b067_14 (jj_le rfl) (jj_le rfl)

set_option maxHeartbeats 4000000 in
set_option maxRecDepth 100000 in
theorem ct_J0_charAt_5068e_s5 {l : Launch} (hl : l.stackTraces = false) (D : va_G) (cA : Nat → ClassId) (ak : (Nat → Nat) × (Nat → Nat)) : jj_M l D cA ak yJ0_charAt_5068e (.code yJ0_charAt_5068e cJ0_charAt_5068e 2 (some .char)) 3 64 0 0 [] [.ref (ak.1 34), .int 0] (fun (w : va_W) (r : Option Value) => (w = [] ∧ r = some (.int 32))) jj_noX := by
  refine jj_start hl (by decide) jw_391c0f56bd (jj_le rfl) ?_
  intro p e s m args below meth c A hargs hA C hex hmn
  refine jj_aload_n C dJ0_charAt_5068e_0 rfl ?_
  refine jq_callVs (rest := []) C (ct_J0_isLatin1_aae02_s2 hl D cA ak) [] [] rfl rfl (by decide) (by decide) (by decide) 34 (by decide) rfl jw_5ca960aa2e jw_b7ba7c03ae jw_c4fe6f1e08 jw_4ea6285965 jw_1aa7753999 jn_J0_isLatin1_aae02 rfl (jj_le rfl) (jj_le rfl) (jj_le rfl) (jj_le rfl) (jj_le rfl) dJ0_charAt_5068e_1 rfl (fun _ _ hX => hX.elim) (fun w1 r O_2 => ?_)
  obtain ⟨rfl, rfl⟩ := O_2
  refine jj_apd rfl ?_
  refine jj_if_eqF (tgt := 16) C dJ0_charAt_5068e_4 (by decide) (by decide) ?_
  refine jj_aload_n C dJ0_charAt_5068e_7 rfl ?_
  refine jj_sval (k := 34) C (by decide) jw_90a506b1c3 dJ0_charAt_5068e_8 ?_
  refine jj_iload_n C dJ0_charAt_5068e_11 rfl ?_
  refine jq_callS (rest := []) C (ct_J1_charAt_3b067_s5 hl D cA ak) [] [] rfl rfl (by decide) (by decide) (by decide) jw_7e2463d496 jw_530d7ac64c jw_2a3a2ce6ce jw_6996a9eac3 jn_J1_charAt_3b067 rfl (jj_le rfl) (jj_le rfl) (jj_le rfl) (jj_le rfl) (jj_le rfl) dJ0_charAt_5068e_12 rfl (fun _ _ hX => hX.elim) (fun w1 r O_4 => ?_)
  obtain ⟨rfl, rfl⟩ := O_4
  refine jj_apd rfl ?_
  exact jj_zret C rfl ⟨rfl, rfl⟩ dJ0_charAt_5068e_15 (jj_le rfl) (jj_le rfl)

set_option maxHeartbeats 4000000 in
set_option maxRecDepth 100000 in
theorem ct_J3_checkIndex_8e157_s11 {l : Launch} (hl : l.stackTraces = false) (D : va_G) (cA : Nat → ClassId) (ak : (Nat → Nat) × (Nat → Nat)) (h0 : Nat) : jj_M l D cA ak yJ3_checkIndex_8e157 (.code yJ3_checkIndex_8e157 cJ3_checkIndex_8e157 3 (some .int)) 0 0 0 0 [] [.int 1, .int 8, .ref h0] (fun (w : va_W) (r : Option Value) => (w = [] ∧ r = some (.int 1))) jj_noX := by
  refine jj_start hl (by decide) jw_da9869a695 (jj_le rfl) ?_
  intro p e s m args below meth c A hargs hA C hex hmn
  refine jj_iload_n C dJ3_checkIndex_8e157_0 rfl ?_
  refine jj_if_ltF (tgt := 9) C dJ3_checkIndex_8e157_1 (by decide) (by decide) ?_
  refine jj_iload_n C dJ3_checkIndex_8e157_4 rfl ?_
  refine jj_iload_n C dJ3_checkIndex_8e157_5 rfl ?_
  refine jj_icmp_ltT (tgt := 16) C dJ3_checkIndex_8e157_6 (by decide) (by decide) ?_
  refine jj_iload_n C dJ3_checkIndex_8e157_16 rfl ?_
  exact jj_iret C ⟨rfl, rfl⟩ dJ3_checkIndex_8e157_17 (jj_le rfl) (jj_le rfl)

set_option maxHeartbeats 4000000 in
set_option maxRecDepth 100000 in
theorem ct_J3_checkIndex_8e157_s12 {l : Launch} (hl : l.stackTraces = false) (D : va_G) (cA : Nat → ClassId) (ak : (Nat → Nat) × (Nat → Nat)) : jj_M l D cA ak yJ3_checkIndex_8e157 (.code yJ3_checkIndex_8e157 cJ3_checkIndex_8e157 3 (some .int)) 0 0 0 0 [] [.int 1, .int 8, .null] (fun (w : va_W) (r : Option Value) => (w = [] ∧ r = some (.int 1))) jj_noX := by
  refine jj_start hl (by decide) jw_da9869a695 (jj_le rfl) ?_
  intro p e s m args below meth c A hargs hA C hex hmn
  refine jj_iload_n C dJ3_checkIndex_8e157_0 rfl ?_
  refine jj_if_ltF (tgt := 9) C dJ3_checkIndex_8e157_1 (by decide) (by decide) ?_
  refine jj_iload_n C dJ3_checkIndex_8e157_4 rfl ?_
  refine jj_iload_n C dJ3_checkIndex_8e157_5 rfl ?_
  refine jj_icmp_ltT (tgt := 16) C dJ3_checkIndex_8e157_6 (by decide) (by decide) ?_
  refine jj_iload_n C dJ3_checkIndex_8e157_16 rfl ?_
  exact jj_iret C ⟨rfl, rfl⟩ dJ3_checkIndex_8e157_17 (jj_le rfl) (jj_le rfl)

set_option maxHeartbeats 4000000 in
set_option maxRecDepth 100000 in
theorem ct_J0_checkIndex_df160_s6 {l : Launch} (hl : l.stackTraces = false) (D : va_G) (cA : Nat → ClassId) (ak : (Nat → Nat) × (Nat → Nat)) : jj_M l D cA ak yJ0_checkIndex_df160 (.code yJ0_checkIndex_df160 cJ0_checkIndex_df160 2 none) 1 22 0 0 [] [.int 1, .int 8] (fun (w : va_W) (r : Option Value) => (w = [] ∧ r = none)) jj_noX := by
  refine jj_start hl (by decide) jw_73f64df4e3 (jj_le rfl) ?_
  intro p e s m args below meth c A hargs hA C hex hmn
  refine jj_iload_n C dJ0_checkIndex_df160_0 rfl ?_
  refine jj_iload_n C dJ0_checkIndex_df160_1 rfl ?_
  refine jj_gfm C jw_040150fc39 dJ0_checkIndex_df160_2 (fun t_1 => ?_) ?_
  · refine jq_callS (rest := []) C (ct_J3_checkIndex_8e157_s11 hl D cA ak t_1) [] [] rfl rfl (by decide) (by decide) (by decide) jw_a7a8b385a1 jw_8d35bed6b0 jw_2c7dffdd00 jw_da9869a695 jn_J3_checkIndex_8e157 rfl (jj_le rfl) (jj_le rfl) (jj_le rfl) (jj_le rfl) (jj_le rfl) dJ0_checkIndex_df160_5 rfl (fun _ _ hX => hX.elim) (fun w1 r O_3 => ?_)
    obtain ⟨rfl, rfl⟩ := O_3
    refine jj_apd rfl ?_
    refine jj_pop C dJ0_checkIndex_df160_8 rfl ?_
    exact jj_vret C ⟨rfl, rfl⟩ dJ0_checkIndex_df160_9 (jj_le rfl) (jj_le rfl)
  · refine jq_callS (rest := []) C (ct_J3_checkIndex_8e157_s12 hl D cA ak) [] [] rfl rfl (by decide) (by decide) (by decide) jw_a7a8b385a1 jw_8d35bed6b0 jw_2c7dffdd00 jw_da9869a695 jn_J3_checkIndex_8e157 rfl (jj_le rfl) (jj_le rfl) (jj_le rfl) (jj_le rfl) (jj_le rfl) dJ0_checkIndex_df160_5 rfl (fun _ _ hX => hX.elim) (fun w1 r O_5 => ?_)
    obtain ⟨rfl, rfl⟩ := O_5
    refine jj_apd rfl ?_
    refine jj_pop C dJ0_checkIndex_df160_8 rfl ?_
    exact jj_vret C ⟨rfl, rfl⟩ dJ0_checkIndex_df160_9 (jj_le rfl) (jj_le rfl)

set_option maxHeartbeats 4000000 in
set_option maxRecDepth 100000 in
theorem ct_J1_charAt_3b067_s6 {l : Launch} (hl : l.stackTraces = false) (D : va_G) (cA : Nat → ClassId) (ak : (Nat → Nat) × (Nat → Nat)) : jj_M l D cA ak yJ1_charAt_3b067 (.code yJ1_charAt_3b067 cJ1_charAt_3b067 2 (some .char)) 2 43 0 0 [] [.ref (ak.2 34), .int 1] (fun (w : va_W) (r : Option Value) => (w = [] ∧ r = some (.int 97))) jj_noX := by
  refine jj_start hl (by decide) jw_6996a9eac3 (jj_le rfl) ?_
  intro p e s m args below meth c A hargs hA C hex hmn
  refine jj_iload_n C dJ1_charAt_3b067_0 rfl ?_
  refine jj_aload_n C dJ1_charAt_3b067_1 rfl ?_
  refine jj_slen (k := 34) (v := 8) C (by decide) (by decide) dJ1_charAt_3b067_2 ?_
  refine jq_callS (rest := []) C (ct_J0_checkIndex_df160_s6 hl D cA ak) [] [] rfl rfl (by decide) (by decide) (by decide) jw_763fabfbf2 jw_9aa540e9dd jw_4ea6285965 jw_73f64df4e3 jn_J0_checkIndex_df160 rfl (jj_le rfl) (jj_le rfl) (jj_le rfl) (jj_le rfl) (jj_le rfl) dJ1_charAt_3b067_3 rfl (fun _ _ hX => hX.elim) (fun w1 r O_2 => ?_)
  obtain ⟨rfl, rfl⟩ := O_2
  refine jj_apd rfl ?_
  refine jj_aload_n C dJ1_charAt_3b067_6 rfl ?_
  refine jj_iload_n C dJ1_charAt_3b067_7 rfl ?_
  refine jj_sbyt (k := 34) (v := 97) C (by decide) (vp_in_iff.mpr (by decide)) (by decide) dJ1_charAt_3b067_8 ?_
  refine jj_sipush (v := 255) C dJ1_charAt_3b067_9 (by decide) ?_
  refine jj_iand (v := 97) C dJ1_charAt_3b067_12 (by decide) ?_
  refine jj_i2c (v := 97) C dJ1_charAt_3b067_13 (by decide) ?_
  exact jj_zret C rfl ⟨rfl, rfl⟩ dJ1_charAt_3b067_14 (jj_le rfl) (jj_le rfl)

set_option maxHeartbeats 4000000 in
set_option maxRecDepth 100000 in
theorem ct_J0_charAt_5068e_s6 {l : Launch} (hl : l.stackTraces = false) (D : va_G) (cA : Nat → ClassId) (ak : (Nat → Nat) × (Nat → Nat)) : jj_M l D cA ak yJ0_charAt_5068e (.code yJ0_charAt_5068e cJ0_charAt_5068e 2 (some .char)) 3 64 0 0 [] [.ref (ak.1 34), .int 1] (fun (w : va_W) (r : Option Value) => (w = [] ∧ r = some (.int 97))) jj_noX := by
  refine jj_start hl (by decide) jw_391c0f56bd (jj_le rfl) ?_
  intro p e s m args below meth c A hargs hA C hex hmn
  refine jj_aload_n C dJ0_charAt_5068e_0 rfl ?_
  refine jq_callVs (rest := []) C (ct_J0_isLatin1_aae02_s2 hl D cA ak) [] [] rfl rfl (by decide) (by decide) (by decide) 34 (by decide) rfl jw_5ca960aa2e jw_b7ba7c03ae jw_c4fe6f1e08 jw_4ea6285965 jw_1aa7753999 jn_J0_isLatin1_aae02 rfl (jj_le rfl) (jj_le rfl) (jj_le rfl) (jj_le rfl) (jj_le rfl) dJ0_charAt_5068e_1 rfl (fun _ _ hX => hX.elim) (fun w1 r O_2 => ?_)
  obtain ⟨rfl, rfl⟩ := O_2
  refine jj_apd rfl ?_
  refine jj_if_eqF (tgt := 16) C dJ0_charAt_5068e_4 (by decide) (by decide) ?_
  refine jj_aload_n C dJ0_charAt_5068e_7 rfl ?_
  refine jj_sval (k := 34) C (by decide) jw_90a506b1c3 dJ0_charAt_5068e_8 ?_
  refine jj_iload_n C dJ0_charAt_5068e_11 rfl ?_
  refine jq_callS (rest := []) C (ct_J1_charAt_3b067_s6 hl D cA ak) [] [] rfl rfl (by decide) (by decide) (by decide) jw_7e2463d496 jw_530d7ac64c jw_2a3a2ce6ce jw_6996a9eac3 jn_J1_charAt_3b067 rfl (jj_le rfl) (jj_le rfl) (jj_le rfl) (jj_le rfl) (jj_le rfl) dJ0_charAt_5068e_12 rfl (fun _ _ hX => hX.elim) (fun w1 r O_4 => ?_)
  obtain ⟨rfl, rfl⟩ := O_4
  refine jj_apd rfl ?_
  exact jj_zret C rfl ⟨rfl, rfl⟩ dJ0_charAt_5068e_15 (jj_le rfl) (jj_le rfl)

set_option maxHeartbeats 4000000 in
set_option maxRecDepth 100000 in
theorem ct_J3_checkIndex_8e157_s13 {l : Launch} (hl : l.stackTraces = false) (D : va_G) (cA : Nat → ClassId) (ak : (Nat → Nat) × (Nat → Nat)) (h0 : Nat) : jj_M l D cA ak yJ3_checkIndex_8e157 (.code yJ3_checkIndex_8e157 cJ3_checkIndex_8e157 3 (some .int)) 0 0 0 0 [] [.int 2, .int 8, .ref h0] (fun (w : va_W) (r : Option Value) => (w = [] ∧ r = some (.int 2))) jj_noX := by
  refine jj_start hl (by decide) jw_da9869a695 (jj_le rfl) ?_
  intro p e s m args below meth c A hargs hA C hex hmn
  refine jj_iload_n C dJ3_checkIndex_8e157_0 rfl ?_
  refine jj_if_ltF (tgt := 9) C dJ3_checkIndex_8e157_1 (by decide) (by decide) ?_
  refine jj_iload_n C dJ3_checkIndex_8e157_4 rfl ?_
  refine jj_iload_n C dJ3_checkIndex_8e157_5 rfl ?_
  refine jj_icmp_ltT (tgt := 16) C dJ3_checkIndex_8e157_6 (by decide) (by decide) ?_
  refine jj_iload_n C dJ3_checkIndex_8e157_16 rfl ?_
  exact jj_iret C ⟨rfl, rfl⟩ dJ3_checkIndex_8e157_17 (jj_le rfl) (jj_le rfl)

set_option maxHeartbeats 4000000 in
set_option maxRecDepth 100000 in
theorem ct_J3_checkIndex_8e157_s14 {l : Launch} (hl : l.stackTraces = false) (D : va_G) (cA : Nat → ClassId) (ak : (Nat → Nat) × (Nat → Nat)) : jj_M l D cA ak yJ3_checkIndex_8e157 (.code yJ3_checkIndex_8e157 cJ3_checkIndex_8e157 3 (some .int)) 0 0 0 0 [] [.int 2, .int 8, .null] (fun (w : va_W) (r : Option Value) => (w = [] ∧ r = some (.int 2))) jj_noX := by
  refine jj_start hl (by decide) jw_da9869a695 (jj_le rfl) ?_
  intro p e s m args below meth c A hargs hA C hex hmn
  refine jj_iload_n C dJ3_checkIndex_8e157_0 rfl ?_
  refine jj_if_ltF (tgt := 9) C dJ3_checkIndex_8e157_1 (by decide) (by decide) ?_
  refine jj_iload_n C dJ3_checkIndex_8e157_4 rfl ?_
  refine jj_iload_n C dJ3_checkIndex_8e157_5 rfl ?_
  refine jj_icmp_ltT (tgt := 16) C dJ3_checkIndex_8e157_6 (by decide) (by decide) ?_
  refine jj_iload_n C dJ3_checkIndex_8e157_16 rfl ?_
  exact jj_iret C ⟨rfl, rfl⟩ dJ3_checkIndex_8e157_17 (jj_le rfl) (jj_le rfl)

set_option maxHeartbeats 4000000 in
set_option maxRecDepth 100000 in
theorem ct_J0_checkIndex_df160_s7 {l : Launch} (hl : l.stackTraces = false) (D : va_G) (cA : Nat → ClassId) (ak : (Nat → Nat) × (Nat → Nat)) : jj_M l D cA ak yJ0_checkIndex_df160 (.code yJ0_checkIndex_df160 cJ0_checkIndex_df160 2 none) 1 22 0 0 [] [.int 2, .int 8] (fun (w : va_W) (r : Option Value) => (w = [] ∧ r = none)) jj_noX := by
  refine jj_start hl (by decide) jw_73f64df4e3 (jj_le rfl) ?_
  intro p e s m args below meth c A hargs hA C hex hmn
  refine jj_iload_n C dJ0_checkIndex_df160_0 rfl ?_
  refine jj_iload_n C dJ0_checkIndex_df160_1 rfl ?_
  refine jj_gfm C jw_040150fc39 dJ0_checkIndex_df160_2 (fun t_1 => ?_) ?_
  · refine jq_callS (rest := []) C (ct_J3_checkIndex_8e157_s13 hl D cA ak t_1) [] [] rfl rfl (by decide) (by decide) (by decide) jw_a7a8b385a1 jw_8d35bed6b0 jw_2c7dffdd00 jw_da9869a695 jn_J3_checkIndex_8e157 rfl (jj_le rfl) (jj_le rfl) (jj_le rfl) (jj_le rfl) (jj_le rfl) dJ0_checkIndex_df160_5 rfl (fun _ _ hX => hX.elim) (fun w1 r O_3 => ?_)
    obtain ⟨rfl, rfl⟩ := O_3
    refine jj_apd rfl ?_
    refine jj_pop C dJ0_checkIndex_df160_8 rfl ?_
    exact jj_vret C ⟨rfl, rfl⟩ dJ0_checkIndex_df160_9 (jj_le rfl) (jj_le rfl)
  · refine jq_callS (rest := []) C (ct_J3_checkIndex_8e157_s14 hl D cA ak) [] [] rfl rfl (by decide) (by decide) (by decide) jw_a7a8b385a1 jw_8d35bed6b0 jw_2c7dffdd00 jw_da9869a695 jn_J3_checkIndex_8e157 rfl (jj_le rfl) (jj_le rfl) (jj_le rfl) (jj_le rfl) (jj_le rfl) dJ0_checkIndex_df160_5 rfl (fun _ _ hX => hX.elim) (fun w1 r O_5 => ?_)
    obtain ⟨rfl, rfl⟩ := O_5
    refine jj_apd rfl ?_
    refine jj_pop C dJ0_checkIndex_df160_8 rfl ?_
    exact jj_vret C ⟨rfl, rfl⟩ dJ0_checkIndex_df160_9 (jj_le rfl) (jj_le rfl)

set_option maxHeartbeats 4000000 in
set_option maxRecDepth 100000 in
theorem ct_J1_charAt_3b067_s7 {l : Launch} (hl : l.stackTraces = false) (D : va_G) (cA : Nat → ClassId) (ak : (Nat → Nat) × (Nat → Nat)) : jj_M l D cA ak yJ1_charAt_3b067 (.code yJ1_charAt_3b067 cJ1_charAt_3b067 2 (some .char)) 2 43 0 0 [] [.ref (ak.2 34), .int 2] (fun (w : va_W) (r : Option Value) => (w = [] ∧ r = some (.int 115))) jj_noX := by
  refine jj_start hl (by decide) jw_6996a9eac3 (jj_le rfl) ?_
  intro p e s m args below meth c A hargs hA C hex hmn
  refine jj_iload_n C dJ1_charAt_3b067_0 rfl ?_
  refine jj_aload_n C dJ1_charAt_3b067_1 rfl ?_
  refine jj_slen (k := 34) (v := 8) C (by decide) (by decide) dJ1_charAt_3b067_2 ?_
  refine jq_callS (rest := []) C (ct_J0_checkIndex_df160_s7 hl D cA ak) [] [] rfl rfl (by decide) (by decide) (by decide) jw_763fabfbf2 jw_9aa540e9dd jw_4ea6285965 jw_73f64df4e3 jn_J0_checkIndex_df160 rfl (jj_le rfl) (jj_le rfl) (jj_le rfl) (jj_le rfl) (jj_le rfl) dJ1_charAt_3b067_3 rfl (fun _ _ hX => hX.elim) (fun w1 r O_2 => ?_)
  obtain ⟨rfl, rfl⟩ := O_2
  refine jj_apd rfl ?_
  refine jj_aload_n C dJ1_charAt_3b067_6 rfl ?_
  refine jj_iload_n C dJ1_charAt_3b067_7 rfl ?_
  refine jj_sbyt (k := 34) (v := 115) C (by decide) (vp_in_iff.mpr (by decide)) (by decide) dJ1_charAt_3b067_8 ?_
  refine jj_sipush (v := 255) C dJ1_charAt_3b067_9 (by decide) ?_
  refine jj_iand (v := 115) C dJ1_charAt_3b067_12 (by decide) ?_
  refine jj_i2c (v := 115) C dJ1_charAt_3b067_13 (by decide) ?_
  exact jj_zret C rfl ⟨rfl, rfl⟩ dJ1_charAt_3b067_14 (jj_le rfl) (jj_le rfl)

set_option maxHeartbeats 4000000 in
set_option maxRecDepth 100000 in
theorem ct_J0_charAt_5068e_s7 {l : Launch} (hl : l.stackTraces = false) (D : va_G) (cA : Nat → ClassId) (ak : (Nat → Nat) × (Nat → Nat)) : jj_M l D cA ak yJ0_charAt_5068e (.code yJ0_charAt_5068e cJ0_charAt_5068e 2 (some .char)) 3 64 0 0 [] [.ref (ak.1 34), .int 2] (fun (w : va_W) (r : Option Value) => (w = [] ∧ r = some (.int 115))) jj_noX := by
  refine jj_start hl (by decide) jw_391c0f56bd (jj_le rfl) ?_
  intro p e s m args below meth c A hargs hA C hex hmn
  refine jj_aload_n C dJ0_charAt_5068e_0 rfl ?_
  refine jq_callVs (rest := []) C (ct_J0_isLatin1_aae02_s2 hl D cA ak) [] [] rfl rfl (by decide) (by decide) (by decide) 34 (by decide) rfl jw_5ca960aa2e jw_b7ba7c03ae jw_c4fe6f1e08 jw_4ea6285965 jw_1aa7753999 jn_J0_isLatin1_aae02 rfl (jj_le rfl) (jj_le rfl) (jj_le rfl) (jj_le rfl) (jj_le rfl) dJ0_charAt_5068e_1 rfl (fun _ _ hX => hX.elim) (fun w1 r O_2 => ?_)
  obtain ⟨rfl, rfl⟩ := O_2
  refine jj_apd rfl ?_
  refine jj_if_eqF (tgt := 16) C dJ0_charAt_5068e_4 (by decide) (by decide) ?_
  refine jj_aload_n C dJ0_charAt_5068e_7 rfl ?_
  refine jj_sval (k := 34) C (by decide) jw_90a506b1c3 dJ0_charAt_5068e_8 ?_
  refine jj_iload_n C dJ0_charAt_5068e_11 rfl ?_
  refine jq_callS (rest := []) C (ct_J1_charAt_3b067_s7 hl D cA ak) [] [] rfl rfl (by decide) (by decide) (by decide) jw_7e2463d496 jw_530d7ac64c jw_2a3a2ce6ce jw_6996a9eac3 jn_J1_charAt_3b067 rfl (jj_le rfl) (jj_le rfl) (jj_le rfl) (jj_le rfl) (jj_le rfl) dJ0_charAt_5068e_12 rfl (fun _ _ hX => hX.elim) (fun w1 r O_4 => ?_)
  obtain ⟨rfl, rfl⟩ := O_4
  refine jj_apd rfl ?_
  exact jj_zret C rfl ⟨rfl, rfl⟩ dJ0_charAt_5068e_15 (jj_le rfl) (jj_le rfl)

set_option maxHeartbeats 4000000 in
set_option maxRecDepth 100000 in
theorem ct_J3_checkIndex_8e157_s15 {l : Launch} (hl : l.stackTraces = false) (D : va_G) (cA : Nat → ClassId) (ak : (Nat → Nat) × (Nat → Nat)) (h0 : Nat) : jj_M l D cA ak yJ3_checkIndex_8e157 (.code yJ3_checkIndex_8e157 cJ3_checkIndex_8e157 3 (some .int)) 0 0 0 0 [] [.int 3, .int 8, .ref h0] (fun (w : va_W) (r : Option Value) => (w = [] ∧ r = some (.int 3))) jj_noX := by
  refine jj_start hl (by decide) jw_da9869a695 (jj_le rfl) ?_
  intro p e s m args below meth c A hargs hA C hex hmn
  refine jj_iload_n C dJ3_checkIndex_8e157_0 rfl ?_
  refine jj_if_ltF (tgt := 9) C dJ3_checkIndex_8e157_1 (by decide) (by decide) ?_
  refine jj_iload_n C dJ3_checkIndex_8e157_4 rfl ?_
  refine jj_iload_n C dJ3_checkIndex_8e157_5 rfl ?_
  refine jj_icmp_ltT (tgt := 16) C dJ3_checkIndex_8e157_6 (by decide) (by decide) ?_
  refine jj_iload_n C dJ3_checkIndex_8e157_16 rfl ?_
  exact jj_iret C ⟨rfl, rfl⟩ dJ3_checkIndex_8e157_17 (jj_le rfl) (jj_le rfl)

set_option maxHeartbeats 4000000 in
set_option maxRecDepth 100000 in
theorem ct_J3_checkIndex_8e157_s16 {l : Launch} (hl : l.stackTraces = false) (D : va_G) (cA : Nat → ClassId) (ak : (Nat → Nat) × (Nat → Nat)) : jj_M l D cA ak yJ3_checkIndex_8e157 (.code yJ3_checkIndex_8e157 cJ3_checkIndex_8e157 3 (some .int)) 0 0 0 0 [] [.int 3, .int 8, .null] (fun (w : va_W) (r : Option Value) => (w = [] ∧ r = some (.int 3))) jj_noX := by
  refine jj_start hl (by decide) jw_da9869a695 (jj_le rfl) ?_
  intro p e s m args below meth c A hargs hA C hex hmn
  refine jj_iload_n C dJ3_checkIndex_8e157_0 rfl ?_
  refine jj_if_ltF (tgt := 9) C dJ3_checkIndex_8e157_1 (by decide) (by decide) ?_
  refine jj_iload_n C dJ3_checkIndex_8e157_4 rfl ?_
  refine jj_iload_n C dJ3_checkIndex_8e157_5 rfl ?_
  refine jj_icmp_ltT (tgt := 16) C dJ3_checkIndex_8e157_6 (by decide) (by decide) ?_
  refine jj_iload_n C dJ3_checkIndex_8e157_16 rfl ?_
  exact jj_iret C ⟨rfl, rfl⟩ dJ3_checkIndex_8e157_17 (jj_le rfl) (jj_le rfl)

set_option maxHeartbeats 4000000 in
set_option maxRecDepth 100000 in
theorem ct_J0_checkIndex_df160_s8 {l : Launch} (hl : l.stackTraces = false) (D : va_G) (cA : Nat → ClassId) (ak : (Nat → Nat) × (Nat → Nat)) : jj_M l D cA ak yJ0_checkIndex_df160 (.code yJ0_checkIndex_df160 cJ0_checkIndex_df160 2 none) 1 22 0 0 [] [.int 3, .int 8] (fun (w : va_W) (r : Option Value) => (w = [] ∧ r = none)) jj_noX := by
  refine jj_start hl (by decide) jw_73f64df4e3 (jj_le rfl) ?_
  intro p e s m args below meth c A hargs hA C hex hmn
  refine jj_iload_n C dJ0_checkIndex_df160_0 rfl ?_
  refine jj_iload_n C dJ0_checkIndex_df160_1 rfl ?_
  refine jj_gfm C jw_040150fc39 dJ0_checkIndex_df160_2 (fun t_1 => ?_) ?_
  · refine jq_callS (rest := []) C (ct_J3_checkIndex_8e157_s15 hl D cA ak t_1) [] [] rfl rfl (by decide) (by decide) (by decide) jw_a7a8b385a1 jw_8d35bed6b0 jw_2c7dffdd00 jw_da9869a695 jn_J3_checkIndex_8e157 rfl (jj_le rfl) (jj_le rfl) (jj_le rfl) (jj_le rfl) (jj_le rfl) dJ0_checkIndex_df160_5 rfl (fun _ _ hX => hX.elim) (fun w1 r O_3 => ?_)
    obtain ⟨rfl, rfl⟩ := O_3
    refine jj_apd rfl ?_
    refine jj_pop C dJ0_checkIndex_df160_8 rfl ?_
    exact jj_vret C ⟨rfl, rfl⟩ dJ0_checkIndex_df160_9 (jj_le rfl) (jj_le rfl)
  · refine jq_callS (rest := []) C (ct_J3_checkIndex_8e157_s16 hl D cA ak) [] [] rfl rfl (by decide) (by decide) (by decide) jw_a7a8b385a1 jw_8d35bed6b0 jw_2c7dffdd00 jw_da9869a695 jn_J3_checkIndex_8e157 rfl (jj_le rfl) (jj_le rfl) (jj_le rfl) (jj_le rfl) (jj_le rfl) dJ0_checkIndex_df160_5 rfl (fun _ _ hX => hX.elim) (fun w1 r O_5 => ?_)
    obtain ⟨rfl, rfl⟩ := O_5
    refine jj_apd rfl ?_
    refine jj_pop C dJ0_checkIndex_df160_8 rfl ?_
    exact jj_vret C ⟨rfl, rfl⟩ dJ0_checkIndex_df160_9 (jj_le rfl) (jj_le rfl)

set_option maxHeartbeats 4000000 in
set_option maxRecDepth 100000 in
theorem ct_J1_charAt_3b067_s8 {l : Launch} (hl : l.stackTraces = false) (D : va_G) (cA : Nat → ClassId) (ak : (Nat → Nat) × (Nat → Nat)) : jj_M l D cA ak yJ1_charAt_3b067 (.code yJ1_charAt_3b067 cJ1_charAt_3b067 2 (some .char)) 2 43 0 0 [] [.ref (ak.2 34), .int 3] (fun (w : va_W) (r : Option Value) => (w = [] ∧ r = some (.int 115))) jj_noX := by
  refine jj_start hl (by decide) jw_6996a9eac3 (jj_le rfl) ?_
  intro p e s m args below meth c A hargs hA C hex hmn
  refine jj_iload_n C dJ1_charAt_3b067_0 rfl ?_
  refine jj_aload_n C dJ1_charAt_3b067_1 rfl ?_
  refine jj_slen (k := 34) (v := 8) C (by decide) (by decide) dJ1_charAt_3b067_2 ?_
  refine jq_callS (rest := []) C (ct_J0_checkIndex_df160_s8 hl D cA ak) [] [] rfl rfl (by decide) (by decide) (by decide) jw_763fabfbf2 jw_9aa540e9dd jw_4ea6285965 jw_73f64df4e3 jn_J0_checkIndex_df160 rfl (jj_le rfl) (jj_le rfl) (jj_le rfl) (jj_le rfl) (jj_le rfl) dJ1_charAt_3b067_3 rfl (fun _ _ hX => hX.elim) (fun w1 r O_2 => ?_)
  obtain ⟨rfl, rfl⟩ := O_2
  refine jj_apd rfl ?_
  refine jj_aload_n C dJ1_charAt_3b067_6 rfl ?_
  refine jj_iload_n C dJ1_charAt_3b067_7 rfl ?_
  refine jj_sbyt (k := 34) (v := 115) C (by decide) (vp_in_iff.mpr (by decide)) (by decide) dJ1_charAt_3b067_8 ?_
  refine jj_sipush (v := 255) C dJ1_charAt_3b067_9 (by decide) ?_
  refine jj_iand (v := 115) C dJ1_charAt_3b067_12 (by decide) ?_
  refine jj_i2c (v := 115) C dJ1_charAt_3b067_13 (by decide) ?_
  exact jj_zret C rfl ⟨rfl, rfl⟩ dJ1_charAt_3b067_14 (jj_le rfl) (jj_le rfl)

set_option maxHeartbeats 4000000 in
set_option maxRecDepth 100000 in
theorem ct_J0_charAt_5068e_s8 {l : Launch} (hl : l.stackTraces = false) (D : va_G) (cA : Nat → ClassId) (ak : (Nat → Nat) × (Nat → Nat)) : jj_M l D cA ak yJ0_charAt_5068e (.code yJ0_charAt_5068e cJ0_charAt_5068e 2 (some .char)) 3 64 0 0 [] [.ref (ak.1 34), .int 3] (fun (w : va_W) (r : Option Value) => (w = [] ∧ r = some (.int 115))) jj_noX := by
  refine jj_start hl (by decide) jw_391c0f56bd (jj_le rfl) ?_
  intro p e s m args below meth c A hargs hA C hex hmn
  refine jj_aload_n C dJ0_charAt_5068e_0 rfl ?_
  refine jq_callVs (rest := []) C (ct_J0_isLatin1_aae02_s2 hl D cA ak) [] [] rfl rfl (by decide) (by decide) (by decide) 34 (by decide) rfl jw_5ca960aa2e jw_b7ba7c03ae jw_c4fe6f1e08 jw_4ea6285965 jw_1aa7753999 jn_J0_isLatin1_aae02 rfl (jj_le rfl) (jj_le rfl) (jj_le rfl) (jj_le rfl) (jj_le rfl) dJ0_charAt_5068e_1 rfl (fun _ _ hX => hX.elim) (fun w1 r O_2 => ?_)
  obtain ⟨rfl, rfl⟩ := O_2
  refine jj_apd rfl ?_
  refine jj_if_eqF (tgt := 16) C dJ0_charAt_5068e_4 (by decide) (by decide) ?_
  refine jj_aload_n C dJ0_charAt_5068e_7 rfl ?_
  refine jj_sval (k := 34) C (by decide) jw_90a506b1c3 dJ0_charAt_5068e_8 ?_
  refine jj_iload_n C dJ0_charAt_5068e_11 rfl ?_
  refine jq_callS (rest := []) C (ct_J1_charAt_3b067_s8 hl D cA ak) [] [] rfl rfl (by decide) (by decide) (by decide) jw_7e2463d496 jw_530d7ac64c jw_2a3a2ce6ce jw_6996a9eac3 jn_J1_charAt_3b067 rfl (jj_le rfl) (jj_le rfl) (jj_le rfl) (jj_le rfl) (jj_le rfl) dJ0_charAt_5068e_12 rfl (fun _ _ hX => hX.elim) (fun w1 r O_4 => ?_)
  obtain ⟨rfl, rfl⟩ := O_4
  refine jj_apd rfl ?_
  exact jj_zret C rfl ⟨rfl, rfl⟩ dJ0_charAt_5068e_15 (jj_le rfl) (jj_le rfl)

set_option maxHeartbeats 4000000 in
set_option maxRecDepth 100000 in
theorem ct_J3_checkIndex_8e157_s17 {l : Launch} (hl : l.stackTraces = false) (D : va_G) (cA : Nat → ClassId) (ak : (Nat → Nat) × (Nat → Nat)) (h0 : Nat) : jj_M l D cA ak yJ3_checkIndex_8e157 (.code yJ3_checkIndex_8e157 cJ3_checkIndex_8e157 3 (some .int)) 0 0 0 0 [] [.int 4, .int 8, .ref h0] (fun (w : va_W) (r : Option Value) => (w = [] ∧ r = some (.int 4))) jj_noX := by
  refine jj_start hl (by decide) jw_da9869a695 (jj_le rfl) ?_
  intro p e s m args below meth c A hargs hA C hex hmn
  refine jj_iload_n C dJ3_checkIndex_8e157_0 rfl ?_
  refine jj_if_ltF (tgt := 9) C dJ3_checkIndex_8e157_1 (by decide) (by decide) ?_
  refine jj_iload_n C dJ3_checkIndex_8e157_4 rfl ?_
  refine jj_iload_n C dJ3_checkIndex_8e157_5 rfl ?_
  refine jj_icmp_ltT (tgt := 16) C dJ3_checkIndex_8e157_6 (by decide) (by decide) ?_
  refine jj_iload_n C dJ3_checkIndex_8e157_16 rfl ?_
  exact jj_iret C ⟨rfl, rfl⟩ dJ3_checkIndex_8e157_17 (jj_le rfl) (jj_le rfl)

set_option maxHeartbeats 4000000 in
set_option maxRecDepth 100000 in
theorem ct_J3_checkIndex_8e157_s18 {l : Launch} (hl : l.stackTraces = false) (D : va_G) (cA : Nat → ClassId) (ak : (Nat → Nat) × (Nat → Nat)) : jj_M l D cA ak yJ3_checkIndex_8e157 (.code yJ3_checkIndex_8e157 cJ3_checkIndex_8e157 3 (some .int)) 0 0 0 0 [] [.int 4, .int 8, .null] (fun (w : va_W) (r : Option Value) => (w = [] ∧ r = some (.int 4))) jj_noX := by
  refine jj_start hl (by decide) jw_da9869a695 (jj_le rfl) ?_
  intro p e s m args below meth c A hargs hA C hex hmn
  refine jj_iload_n C dJ3_checkIndex_8e157_0 rfl ?_
  refine jj_if_ltF (tgt := 9) C dJ3_checkIndex_8e157_1 (by decide) (by decide) ?_
  refine jj_iload_n C dJ3_checkIndex_8e157_4 rfl ?_
  refine jj_iload_n C dJ3_checkIndex_8e157_5 rfl ?_
  refine jj_icmp_ltT (tgt := 16) C dJ3_checkIndex_8e157_6 (by decide) (by decide) ?_
  refine jj_iload_n C dJ3_checkIndex_8e157_16 rfl ?_
  exact jj_iret C ⟨rfl, rfl⟩ dJ3_checkIndex_8e157_17 (jj_le rfl) (jj_le rfl)

set_option maxHeartbeats 4000000 in
set_option maxRecDepth 100000 in
theorem ct_J0_checkIndex_df160_s9 {l : Launch} (hl : l.stackTraces = false) (D : va_G) (cA : Nat → ClassId) (ak : (Nat → Nat) × (Nat → Nat)) : jj_M l D cA ak yJ0_checkIndex_df160 (.code yJ0_checkIndex_df160 cJ0_checkIndex_df160 2 none) 1 22 0 0 [] [.int 4, .int 8] (fun (w : va_W) (r : Option Value) => (w = [] ∧ r = none)) jj_noX := by
  refine jj_start hl (by decide) jw_73f64df4e3 (jj_le rfl) ?_
  intro p e s m args below meth c A hargs hA C hex hmn
  refine jj_iload_n C dJ0_checkIndex_df160_0 rfl ?_
  refine jj_iload_n C dJ0_checkIndex_df160_1 rfl ?_
  refine jj_gfm C jw_040150fc39 dJ0_checkIndex_df160_2 (fun t_1 => ?_) ?_
  · refine jq_callS (rest := []) C (ct_J3_checkIndex_8e157_s17 hl D cA ak t_1) [] [] rfl rfl (by decide) (by decide) (by decide) jw_a7a8b385a1 jw_8d35bed6b0 jw_2c7dffdd00 jw_da9869a695 jn_J3_checkIndex_8e157 rfl (jj_le rfl) (jj_le rfl) (jj_le rfl) (jj_le rfl) (jj_le rfl) dJ0_checkIndex_df160_5 rfl (fun _ _ hX => hX.elim) (fun w1 r O_3 => ?_)
    obtain ⟨rfl, rfl⟩ := O_3
    refine jj_apd rfl ?_
    refine jj_pop C dJ0_checkIndex_df160_8 rfl ?_
    exact jj_vret C ⟨rfl, rfl⟩ dJ0_checkIndex_df160_9 (jj_le rfl) (jj_le rfl)
  · refine jq_callS (rest := []) C (ct_J3_checkIndex_8e157_s18 hl D cA ak) [] [] rfl rfl (by decide) (by decide) (by decide) jw_a7a8b385a1 jw_8d35bed6b0 jw_2c7dffdd00 jw_da9869a695 jn_J3_checkIndex_8e157 rfl (jj_le rfl) (jj_le rfl) (jj_le rfl) (jj_le rfl) (jj_le rfl) dJ0_checkIndex_df160_5 rfl (fun _ _ hX => hX.elim) (fun w1 r O_5 => ?_)
    obtain ⟨rfl, rfl⟩ := O_5
    refine jj_apd rfl ?_
    refine jj_pop C dJ0_checkIndex_df160_8 rfl ?_
    exact jj_vret C ⟨rfl, rfl⟩ dJ0_checkIndex_df160_9 (jj_le rfl) (jj_le rfl)

set_option maxHeartbeats 4000000 in
set_option maxRecDepth 100000 in
theorem ct_J1_charAt_3b067_s9 {l : Launch} (hl : l.stackTraces = false) (D : va_G) (cA : Nat → ClassId) (ak : (Nat → Nat) × (Nat → Nat)) : jj_M l D cA ak yJ1_charAt_3b067 (.code yJ1_charAt_3b067 cJ1_charAt_3b067 2 (some .char)) 2 43 0 0 [] [.ref (ak.2 34), .int 4] (fun (w : va_W) (r : Option Value) => (w = [] ∧ r = some (.int 101))) jj_noX := by
  refine jj_start hl (by decide) jw_6996a9eac3 (jj_le rfl) ?_
  intro p e s m args below meth c A hargs hA C hex hmn
  refine jj_iload_n C dJ1_charAt_3b067_0 rfl ?_
  refine jj_aload_n C dJ1_charAt_3b067_1 rfl ?_
  refine jj_slen (k := 34) (v := 8) C (by decide) (by decide) dJ1_charAt_3b067_2 ?_
  refine jq_callS (rest := []) C (ct_J0_checkIndex_df160_s9 hl D cA ak) [] [] rfl rfl (by decide) (by decide) (by decide) jw_763fabfbf2 jw_9aa540e9dd jw_4ea6285965 jw_73f64df4e3 jn_J0_checkIndex_df160 rfl (jj_le rfl) (jj_le rfl) (jj_le rfl) (jj_le rfl) (jj_le rfl) dJ1_charAt_3b067_3 rfl (fun _ _ hX => hX.elim) (fun w1 r O_2 => ?_)
  obtain ⟨rfl, rfl⟩ := O_2
  refine jj_apd rfl ?_
  refine jj_aload_n C dJ1_charAt_3b067_6 rfl ?_
  refine jj_iload_n C dJ1_charAt_3b067_7 rfl ?_
  refine jj_sbyt (k := 34) (v := 101) C (by decide) (vp_in_iff.mpr (by decide)) (by decide) dJ1_charAt_3b067_8 ?_
  refine jj_sipush (v := 255) C dJ1_charAt_3b067_9 (by decide) ?_
  refine jj_iand (v := 101) C dJ1_charAt_3b067_12 (by decide) ?_
  refine jj_i2c (v := 101) C dJ1_charAt_3b067_13 (by decide) ?_
  exact jj_zret C rfl ⟨rfl, rfl⟩ dJ1_charAt_3b067_14 (jj_le rfl) (jj_le rfl)

set_option maxHeartbeats 4000000 in
set_option maxRecDepth 100000 in
theorem ct_J0_charAt_5068e_s9 {l : Launch} (hl : l.stackTraces = false) (D : va_G) (cA : Nat → ClassId) (ak : (Nat → Nat) × (Nat → Nat)) : jj_M l D cA ak yJ0_charAt_5068e (.code yJ0_charAt_5068e cJ0_charAt_5068e 2 (some .char)) 3 64 0 0 [] [.ref (ak.1 34), .int 4] (fun (w : va_W) (r : Option Value) => (w = [] ∧ r = some (.int 101))) jj_noX := by
  refine jj_start hl (by decide) jw_391c0f56bd (jj_le rfl) ?_
  intro p e s m args below meth c A hargs hA C hex hmn
  refine jj_aload_n C dJ0_charAt_5068e_0 rfl ?_
  refine jq_callVs (rest := []) C (ct_J0_isLatin1_aae02_s2 hl D cA ak) [] [] rfl rfl (by decide) (by decide) (by decide) 34 (by decide) rfl jw_5ca960aa2e jw_b7ba7c03ae jw_c4fe6f1e08 jw_4ea6285965 jw_1aa7753999 jn_J0_isLatin1_aae02 rfl (jj_le rfl) (jj_le rfl) (jj_le rfl) (jj_le rfl) (jj_le rfl) dJ0_charAt_5068e_1 rfl (fun _ _ hX => hX.elim) (fun w1 r O_2 => ?_)
  obtain ⟨rfl, rfl⟩ := O_2
  refine jj_apd rfl ?_
  refine jj_if_eqF (tgt := 16) C dJ0_charAt_5068e_4 (by decide) (by decide) ?_
  refine jj_aload_n C dJ0_charAt_5068e_7 rfl ?_
  refine jj_sval (k := 34) C (by decide) jw_90a506b1c3 dJ0_charAt_5068e_8 ?_
  refine jj_iload_n C dJ0_charAt_5068e_11 rfl ?_
  refine jq_callS (rest := []) C (ct_J1_charAt_3b067_s9 hl D cA ak) [] [] rfl rfl (by decide) (by decide) (by decide) jw_7e2463d496 jw_530d7ac64c jw_2a3a2ce6ce jw_6996a9eac3 jn_J1_charAt_3b067 rfl (jj_le rfl) (jj_le rfl) (jj_le rfl) (jj_le rfl) (jj_le rfl) dJ0_charAt_5068e_12 rfl (fun _ _ hX => hX.elim) (fun w1 r O_4 => ?_)
  obtain ⟨rfl, rfl⟩ := O_4
  refine jj_apd rfl ?_
  exact jj_zret C rfl ⟨rfl, rfl⟩ dJ0_charAt_5068e_15 (jj_le rfl) (jj_le rfl)

set_option maxHeartbeats 4000000 in
set_option maxRecDepth 100000 in
theorem ct_J3_checkIndex_8e157_s19 {l : Launch} (hl : l.stackTraces = false) (D : va_G) (cA : Nat → ClassId) (ak : (Nat → Nat) × (Nat → Nat)) (h0 : Nat) : jj_M l D cA ak yJ3_checkIndex_8e157 (.code yJ3_checkIndex_8e157 cJ3_checkIndex_8e157 3 (some .int)) 0 0 0 0 [] [.int 5, .int 8, .ref h0] (fun (w : va_W) (r : Option Value) => (w = [] ∧ r = some (.int 5))) jj_noX := by
  refine jj_start hl (by decide) jw_da9869a695 (jj_le rfl) ?_
  intro p e s m args below meth c A hargs hA C hex hmn
  refine jj_iload_n C dJ3_checkIndex_8e157_0 rfl ?_
  refine jj_if_ltF (tgt := 9) C dJ3_checkIndex_8e157_1 (by decide) (by decide) ?_
  refine jj_iload_n C dJ3_checkIndex_8e157_4 rfl ?_
  refine jj_iload_n C dJ3_checkIndex_8e157_5 rfl ?_
  refine jj_icmp_ltT (tgt := 16) C dJ3_checkIndex_8e157_6 (by decide) (by decide) ?_
  refine jj_iload_n C dJ3_checkIndex_8e157_16 rfl ?_
  exact jj_iret C ⟨rfl, rfl⟩ dJ3_checkIndex_8e157_17 (jj_le rfl) (jj_le rfl)

set_option maxHeartbeats 4000000 in
set_option maxRecDepth 100000 in
theorem ct_J3_checkIndex_8e157_s20 {l : Launch} (hl : l.stackTraces = false) (D : va_G) (cA : Nat → ClassId) (ak : (Nat → Nat) × (Nat → Nat)) : jj_M l D cA ak yJ3_checkIndex_8e157 (.code yJ3_checkIndex_8e157 cJ3_checkIndex_8e157 3 (some .int)) 0 0 0 0 [] [.int 5, .int 8, .null] (fun (w : va_W) (r : Option Value) => (w = [] ∧ r = some (.int 5))) jj_noX := by
  refine jj_start hl (by decide) jw_da9869a695 (jj_le rfl) ?_
  intro p e s m args below meth c A hargs hA C hex hmn
  refine jj_iload_n C dJ3_checkIndex_8e157_0 rfl ?_
  refine jj_if_ltF (tgt := 9) C dJ3_checkIndex_8e157_1 (by decide) (by decide) ?_
  refine jj_iload_n C dJ3_checkIndex_8e157_4 rfl ?_
  refine jj_iload_n C dJ3_checkIndex_8e157_5 rfl ?_
  refine jj_icmp_ltT (tgt := 16) C dJ3_checkIndex_8e157_6 (by decide) (by decide) ?_
  refine jj_iload_n C dJ3_checkIndex_8e157_16 rfl ?_
  exact jj_iret C ⟨rfl, rfl⟩ dJ3_checkIndex_8e157_17 (jj_le rfl) (jj_le rfl)

set_option maxHeartbeats 4000000 in
set_option maxRecDepth 100000 in
theorem ct_J0_checkIndex_df160_s10 {l : Launch} (hl : l.stackTraces = false) (D : va_G) (cA : Nat → ClassId) (ak : (Nat → Nat) × (Nat → Nat)) : jj_M l D cA ak yJ0_checkIndex_df160 (.code yJ0_checkIndex_df160 cJ0_checkIndex_df160 2 none) 1 22 0 0 [] [.int 5, .int 8] (fun (w : va_W) (r : Option Value) => (w = [] ∧ r = none)) jj_noX := by
  refine jj_start hl (by decide) jw_73f64df4e3 (jj_le rfl) ?_
  intro p e s m args below meth c A hargs hA C hex hmn
  refine jj_iload_n C dJ0_checkIndex_df160_0 rfl ?_
  refine jj_iload_n C dJ0_checkIndex_df160_1 rfl ?_
  refine jj_gfm C jw_040150fc39 dJ0_checkIndex_df160_2 (fun t_1 => ?_) ?_
  · refine jq_callS (rest := []) C (ct_J3_checkIndex_8e157_s19 hl D cA ak t_1) [] [] rfl rfl (by decide) (by decide) (by decide) jw_a7a8b385a1 jw_8d35bed6b0 jw_2c7dffdd00 jw_da9869a695 jn_J3_checkIndex_8e157 rfl (jj_le rfl) (jj_le rfl) (jj_le rfl) (jj_le rfl) (jj_le rfl) dJ0_checkIndex_df160_5 rfl (fun _ _ hX => hX.elim) (fun w1 r O_3 => ?_)
    obtain ⟨rfl, rfl⟩ := O_3
    refine jj_apd rfl ?_
    refine jj_pop C dJ0_checkIndex_df160_8 rfl ?_
    exact jj_vret C ⟨rfl, rfl⟩ dJ0_checkIndex_df160_9 (jj_le rfl) (jj_le rfl)
  · refine jq_callS (rest := []) C (ct_J3_checkIndex_8e157_s20 hl D cA ak) [] [] rfl rfl (by decide) (by decide) (by decide) jw_a7a8b385a1 jw_8d35bed6b0 jw_2c7dffdd00 jw_da9869a695 jn_J3_checkIndex_8e157 rfl (jj_le rfl) (jj_le rfl) (jj_le rfl) (jj_le rfl) (jj_le rfl) dJ0_checkIndex_df160_5 rfl (fun _ _ hX => hX.elim) (fun w1 r O_5 => ?_)
    obtain ⟨rfl, rfl⟩ := O_5
    refine jj_apd rfl ?_
    refine jj_pop C dJ0_checkIndex_df160_8 rfl ?_
    exact jj_vret C ⟨rfl, rfl⟩ dJ0_checkIndex_df160_9 (jj_le rfl) (jj_le rfl)

set_option maxHeartbeats 4000000 in
set_option maxRecDepth 100000 in
theorem ct_J1_charAt_3b067_s10 {l : Launch} (hl : l.stackTraces = false) (D : va_G) (cA : Nat → ClassId) (ak : (Nat → Nat) × (Nat → Nat)) : jj_M l D cA ak yJ1_charAt_3b067 (.code yJ1_charAt_3b067 cJ1_charAt_3b067 2 (some .char)) 2 43 0 0 [] [.ref (ak.2 34), .int 5] (fun (w : va_W) (r : Option Value) => (w = [] ∧ r = some (.int 116))) jj_noX := by
  refine jj_start hl (by decide) jw_6996a9eac3 (jj_le rfl) ?_
  intro p e s m args below meth c A hargs hA C hex hmn
  refine jj_iload_n C dJ1_charAt_3b067_0 rfl ?_
  refine jj_aload_n C dJ1_charAt_3b067_1 rfl ?_
  refine jj_slen (k := 34) (v := 8) C (by decide) (by decide) dJ1_charAt_3b067_2 ?_
  refine jq_callS (rest := []) C (ct_J0_checkIndex_df160_s10 hl D cA ak) [] [] rfl rfl (by decide) (by decide) (by decide) jw_763fabfbf2 jw_9aa540e9dd jw_4ea6285965 jw_73f64df4e3 jn_J0_checkIndex_df160 rfl (jj_le rfl) (jj_le rfl) (jj_le rfl) (jj_le rfl) (jj_le rfl) dJ1_charAt_3b067_3 rfl (fun _ _ hX => hX.elim) (fun w1 r O_2 => ?_)
  obtain ⟨rfl, rfl⟩ := O_2
  refine jj_apd rfl ?_
  refine jj_aload_n C dJ1_charAt_3b067_6 rfl ?_
  refine jj_iload_n C dJ1_charAt_3b067_7 rfl ?_
  refine jj_sbyt (k := 34) (v := 116) C (by decide) (vp_in_iff.mpr (by decide)) (by decide) dJ1_charAt_3b067_8 ?_
  refine jj_sipush (v := 255) C dJ1_charAt_3b067_9 (by decide) ?_
  refine jj_iand (v := 116) C dJ1_charAt_3b067_12 (by decide) ?_
  refine jj_i2c (v := 116) C dJ1_charAt_3b067_13 (by decide) ?_
  exact jj_zret C rfl ⟨rfl, rfl⟩ dJ1_charAt_3b067_14 (jj_le rfl) (jj_le rfl)

set_option maxHeartbeats 4000000 in
set_option maxRecDepth 100000 in
theorem ct_J0_charAt_5068e_s10 {l : Launch} (hl : l.stackTraces = false) (D : va_G) (cA : Nat → ClassId) (ak : (Nat → Nat) × (Nat → Nat)) : jj_M l D cA ak yJ0_charAt_5068e (.code yJ0_charAt_5068e cJ0_charAt_5068e 2 (some .char)) 3 64 0 0 [] [.ref (ak.1 34), .int 5] (fun (w : va_W) (r : Option Value) => (w = [] ∧ r = some (.int 116))) jj_noX := by
  refine jj_start hl (by decide) jw_391c0f56bd (jj_le rfl) ?_
  intro p e s m args below meth c A hargs hA C hex hmn
  refine jj_aload_n C dJ0_charAt_5068e_0 rfl ?_
  refine jq_callVs (rest := []) C (ct_J0_isLatin1_aae02_s2 hl D cA ak) [] [] rfl rfl (by decide) (by decide) (by decide) 34 (by decide) rfl jw_5ca960aa2e jw_b7ba7c03ae jw_c4fe6f1e08 jw_4ea6285965 jw_1aa7753999 jn_J0_isLatin1_aae02 rfl (jj_le rfl) (jj_le rfl) (jj_le rfl) (jj_le rfl) (jj_le rfl) dJ0_charAt_5068e_1 rfl (fun _ _ hX => hX.elim) (fun w1 r O_2 => ?_)
  obtain ⟨rfl, rfl⟩ := O_2
  refine jj_apd rfl ?_
  refine jj_if_eqF (tgt := 16) C dJ0_charAt_5068e_4 (by decide) (by decide) ?_
  refine jj_aload_n C dJ0_charAt_5068e_7 rfl ?_
  refine jj_sval (k := 34) C (by decide) jw_90a506b1c3 dJ0_charAt_5068e_8 ?_
  refine jj_iload_n C dJ0_charAt_5068e_11 rfl ?_
  refine jq_callS (rest := []) C (ct_J1_charAt_3b067_s10 hl D cA ak) [] [] rfl rfl (by decide) (by decide) (by decide) jw_7e2463d496 jw_530d7ac64c jw_2a3a2ce6ce jw_6996a9eac3 jn_J1_charAt_3b067 rfl (jj_le rfl) (jj_le rfl) (jj_le rfl) (jj_le rfl) (jj_le rfl) dJ0_charAt_5068e_12 rfl (fun _ _ hX => hX.elim) (fun w1 r O_4 => ?_)
  obtain ⟨rfl, rfl⟩ := O_4
  refine jj_apd rfl ?_
  exact jj_zret C rfl ⟨rfl, rfl⟩ dJ0_charAt_5068e_15 (jj_le rfl) (jj_le rfl)

set_option maxHeartbeats 4000000 in
set_option maxRecDepth 100000 in
theorem ct_J3_checkIndex_8e157_s21 {l : Launch} (hl : l.stackTraces = false) (D : va_G) (cA : Nat → ClassId) (ak : (Nat → Nat) × (Nat → Nat)) (h0 : Nat) : jj_M l D cA ak yJ3_checkIndex_8e157 (.code yJ3_checkIndex_8e157 cJ3_checkIndex_8e157 3 (some .int)) 0 0 0 0 [] [.int 6, .int 8, .ref h0] (fun (w : va_W) (r : Option Value) => (w = [] ∧ r = some (.int 6))) jj_noX := by
  refine jj_start hl (by decide) jw_da9869a695 (jj_le rfl) ?_
  intro p e s m args below meth c A hargs hA C hex hmn
  refine jj_iload_n C dJ3_checkIndex_8e157_0 rfl ?_
  refine jj_if_ltF (tgt := 9) C dJ3_checkIndex_8e157_1 (by decide) (by decide) ?_
  refine jj_iload_n C dJ3_checkIndex_8e157_4 rfl ?_
  refine jj_iload_n C dJ3_checkIndex_8e157_5 rfl ?_
  refine jj_icmp_ltT (tgt := 16) C dJ3_checkIndex_8e157_6 (by decide) (by decide) ?_
  refine jj_iload_n C dJ3_checkIndex_8e157_16 rfl ?_
  exact jj_iret C ⟨rfl, rfl⟩ dJ3_checkIndex_8e157_17 (jj_le rfl) (jj_le rfl)

set_option maxHeartbeats 4000000 in
set_option maxRecDepth 100000 in
theorem ct_J3_checkIndex_8e157_s22 {l : Launch} (hl : l.stackTraces = false) (D : va_G) (cA : Nat → ClassId) (ak : (Nat → Nat) × (Nat → Nat)) : jj_M l D cA ak yJ3_checkIndex_8e157 (.code yJ3_checkIndex_8e157 cJ3_checkIndex_8e157 3 (some .int)) 0 0 0 0 [] [.int 6, .int 8, .null] (fun (w : va_W) (r : Option Value) => (w = [] ∧ r = some (.int 6))) jj_noX := by
  refine jj_start hl (by decide) jw_da9869a695 (jj_le rfl) ?_
  intro p e s m args below meth c A hargs hA C hex hmn
  refine jj_iload_n C dJ3_checkIndex_8e157_0 rfl ?_
  refine jj_if_ltF (tgt := 9) C dJ3_checkIndex_8e157_1 (by decide) (by decide) ?_
  refine jj_iload_n C dJ3_checkIndex_8e157_4 rfl ?_
  refine jj_iload_n C dJ3_checkIndex_8e157_5 rfl ?_
  refine jj_icmp_ltT (tgt := 16) C dJ3_checkIndex_8e157_6 (by decide) (by decide) ?_
  refine jj_iload_n C dJ3_checkIndex_8e157_16 rfl ?_
  exact jj_iret C ⟨rfl, rfl⟩ dJ3_checkIndex_8e157_17 (jj_le rfl) (jj_le rfl)

set_option maxHeartbeats 4000000 in
set_option maxRecDepth 100000 in
theorem ct_J0_checkIndex_df160_s11 {l : Launch} (hl : l.stackTraces = false) (D : va_G) (cA : Nat → ClassId) (ak : (Nat → Nat) × (Nat → Nat)) : jj_M l D cA ak yJ0_checkIndex_df160 (.code yJ0_checkIndex_df160 cJ0_checkIndex_df160 2 none) 1 22 0 0 [] [.int 6, .int 8] (fun (w : va_W) (r : Option Value) => (w = [] ∧ r = none)) jj_noX := by
  refine jj_start hl (by decide) jw_73f64df4e3 (jj_le rfl) ?_
  intro p e s m args below meth c A hargs hA C hex hmn
  refine jj_iload_n C dJ0_checkIndex_df160_0 rfl ?_
  refine jj_iload_n C dJ0_checkIndex_df160_1 rfl ?_
  refine jj_gfm C jw_040150fc39 dJ0_checkIndex_df160_2 (fun t_1 => ?_) ?_
  · refine jq_callS (rest := []) C (ct_J3_checkIndex_8e157_s21 hl D cA ak t_1) [] [] rfl rfl (by decide) (by decide) (by decide) jw_a7a8b385a1 jw_8d35bed6b0 jw_2c7dffdd00 jw_da9869a695 jn_J3_checkIndex_8e157 rfl (jj_le rfl) (jj_le rfl) (jj_le rfl) (jj_le rfl) (jj_le rfl) dJ0_checkIndex_df160_5 rfl (fun _ _ hX => hX.elim) (fun w1 r O_3 => ?_)
    obtain ⟨rfl, rfl⟩ := O_3
    refine jj_apd rfl ?_
    refine jj_pop C dJ0_checkIndex_df160_8 rfl ?_
    exact jj_vret C ⟨rfl, rfl⟩ dJ0_checkIndex_df160_9 (jj_le rfl) (jj_le rfl)
  · refine jq_callS (rest := []) C (ct_J3_checkIndex_8e157_s22 hl D cA ak) [] [] rfl rfl (by decide) (by decide) (by decide) jw_a7a8b385a1 jw_8d35bed6b0 jw_2c7dffdd00 jw_da9869a695 jn_J3_checkIndex_8e157 rfl (jj_le rfl) (jj_le rfl) (jj_le rfl) (jj_le rfl) (jj_le rfl) dJ0_checkIndex_df160_5 rfl (fun _ _ hX => hX.elim) (fun w1 r O_5 => ?_)
    obtain ⟨rfl, rfl⟩ := O_5
    refine jj_apd rfl ?_
    refine jj_pop C dJ0_checkIndex_df160_8 rfl ?_
    exact jj_vret C ⟨rfl, rfl⟩ dJ0_checkIndex_df160_9 (jj_le rfl) (jj_le rfl)

set_option maxHeartbeats 4000000 in
set_option maxRecDepth 100000 in
theorem ct_J1_charAt_3b067_s11 {l : Launch} (hl : l.stackTraces = false) (D : va_G) (cA : Nat → ClassId) (ak : (Nat → Nat) × (Nat → Nat)) : jj_M l D cA ak yJ1_charAt_3b067 (.code yJ1_charAt_3b067 cJ1_charAt_3b067 2 (some .char)) 2 43 0 0 [] [.ref (ak.2 34), .int 6] (fun (w : va_W) (r : Option Value) => (w = [] ∧ r = some (.int 115))) jj_noX := by
  refine jj_start hl (by decide) jw_6996a9eac3 (jj_le rfl) ?_
  intro p e s m args below meth c A hargs hA C hex hmn
  refine jj_iload_n C dJ1_charAt_3b067_0 rfl ?_
  refine jj_aload_n C dJ1_charAt_3b067_1 rfl ?_
  refine jj_slen (k := 34) (v := 8) C (by decide) (by decide) dJ1_charAt_3b067_2 ?_
  refine jq_callS (rest := []) C (ct_J0_checkIndex_df160_s11 hl D cA ak) [] [] rfl rfl (by decide) (by decide) (by decide) jw_763fabfbf2 jw_9aa540e9dd jw_4ea6285965 jw_73f64df4e3 jn_J0_checkIndex_df160 rfl (jj_le rfl) (jj_le rfl) (jj_le rfl) (jj_le rfl) (jj_le rfl) dJ1_charAt_3b067_3 rfl (fun _ _ hX => hX.elim) (fun w1 r O_2 => ?_)
  obtain ⟨rfl, rfl⟩ := O_2
  refine jj_apd rfl ?_
  refine jj_aload_n C dJ1_charAt_3b067_6 rfl ?_
  refine jj_iload_n C dJ1_charAt_3b067_7 rfl ?_
  refine jj_sbyt (k := 34) (v := 115) C (by decide) (vp_in_iff.mpr (by decide)) (by decide) dJ1_charAt_3b067_8 ?_
  refine jj_sipush (v := 255) C dJ1_charAt_3b067_9 (by decide) ?_
  refine jj_iand (v := 115) C dJ1_charAt_3b067_12 (by decide) ?_
  refine jj_i2c (v := 115) C dJ1_charAt_3b067_13 (by decide) ?_
  exact jj_zret C rfl ⟨rfl, rfl⟩ dJ1_charAt_3b067_14 (jj_le rfl) (jj_le rfl)

set_option maxHeartbeats 4000000 in
set_option maxRecDepth 100000 in
theorem ct_J0_charAt_5068e_s11 {l : Launch} (hl : l.stackTraces = false) (D : va_G) (cA : Nat → ClassId) (ak : (Nat → Nat) × (Nat → Nat)) : jj_M l D cA ak yJ0_charAt_5068e (.code yJ0_charAt_5068e cJ0_charAt_5068e 2 (some .char)) 3 64 0 0 [] [.ref (ak.1 34), .int 6] (fun (w : va_W) (r : Option Value) => (w = [] ∧ r = some (.int 115))) jj_noX := by
  refine jj_start hl (by decide) jw_391c0f56bd (jj_le rfl) ?_
  intro p e s m args below meth c A hargs hA C hex hmn
  refine jj_aload_n C dJ0_charAt_5068e_0 rfl ?_
  refine jq_callVs (rest := []) C (ct_J0_isLatin1_aae02_s2 hl D cA ak) [] [] rfl rfl (by decide) (by decide) (by decide) 34 (by decide) rfl jw_5ca960aa2e jw_b7ba7c03ae jw_c4fe6f1e08 jw_4ea6285965 jw_1aa7753999 jn_J0_isLatin1_aae02 rfl (jj_le rfl) (jj_le rfl) (jj_le rfl) (jj_le rfl) (jj_le rfl) dJ0_charAt_5068e_1 rfl (fun _ _ hX => hX.elim) (fun w1 r O_2 => ?_)
  obtain ⟨rfl, rfl⟩ := O_2
  refine jj_apd rfl ?_
  refine jj_if_eqF (tgt := 16) C dJ0_charAt_5068e_4 (by decide) (by decide) ?_
  refine jj_aload_n C dJ0_charAt_5068e_7 rfl ?_
  refine jj_sval (k := 34) C (by decide) jw_90a506b1c3 dJ0_charAt_5068e_8 ?_
  refine jj_iload_n C dJ0_charAt_5068e_11 rfl ?_
  refine jq_callS (rest := []) C (ct_J1_charAt_3b067_s11 hl D cA ak) [] [] rfl rfl (by decide) (by decide) (by decide) jw_7e2463d496 jw_530d7ac64c jw_2a3a2ce6ce jw_6996a9eac3 jn_J1_charAt_3b067 rfl (jj_le rfl) (jj_le rfl) (jj_le rfl) (jj_le rfl) (jj_le rfl) dJ0_charAt_5068e_12 rfl (fun _ _ hX => hX.elim) (fun w1 r O_4 => ?_)
  obtain ⟨rfl, rfl⟩ := O_4
  refine jj_apd rfl ?_
  exact jj_zret C rfl ⟨rfl, rfl⟩ dJ0_charAt_5068e_15 (jj_le rfl) (jj_le rfl)

set_option maxHeartbeats 4000000 in
set_option maxRecDepth 100000 in
theorem ct_J3_checkIndex_8e157_s23 {l : Launch} (hl : l.stackTraces = false) (D : va_G) (cA : Nat → ClassId) (ak : (Nat → Nat) × (Nat → Nat)) (h0 : Nat) : jj_M l D cA ak yJ3_checkIndex_8e157 (.code yJ3_checkIndex_8e157 cJ3_checkIndex_8e157 3 (some .int)) 0 0 0 0 [] [.int 7, .int 8, .ref h0] (fun (w : va_W) (r : Option Value) => (w = [] ∧ r = some (.int 7))) jj_noX := by
  refine jj_start hl (by decide) jw_da9869a695 (jj_le rfl) ?_
  intro p e s m args below meth c A hargs hA C hex hmn
  refine jj_iload_n C dJ3_checkIndex_8e157_0 rfl ?_
  refine jj_if_ltF (tgt := 9) C dJ3_checkIndex_8e157_1 (by decide) (by decide) ?_
  refine jj_iload_n C dJ3_checkIndex_8e157_4 rfl ?_
  refine jj_iload_n C dJ3_checkIndex_8e157_5 rfl ?_
  refine jj_icmp_ltT (tgt := 16) C dJ3_checkIndex_8e157_6 (by decide) (by decide) ?_
  refine jj_iload_n C dJ3_checkIndex_8e157_16 rfl ?_
  exact jj_iret C ⟨rfl, rfl⟩ dJ3_checkIndex_8e157_17 (jj_le rfl) (jj_le rfl)

set_option maxHeartbeats 4000000 in
set_option maxRecDepth 100000 in
theorem ct_J3_checkIndex_8e157_s24 {l : Launch} (hl : l.stackTraces = false) (D : va_G) (cA : Nat → ClassId) (ak : (Nat → Nat) × (Nat → Nat)) : jj_M l D cA ak yJ3_checkIndex_8e157 (.code yJ3_checkIndex_8e157 cJ3_checkIndex_8e157 3 (some .int)) 0 0 0 0 [] [.int 7, .int 8, .null] (fun (w : va_W) (r : Option Value) => (w = [] ∧ r = some (.int 7))) jj_noX := by
  refine jj_start hl (by decide) jw_da9869a695 (jj_le rfl) ?_
  intro p e s m args below meth c A hargs hA C hex hmn
  refine jj_iload_n C dJ3_checkIndex_8e157_0 rfl ?_
  refine jj_if_ltF (tgt := 9) C dJ3_checkIndex_8e157_1 (by decide) (by decide) ?_
  refine jj_iload_n C dJ3_checkIndex_8e157_4 rfl ?_
  refine jj_iload_n C dJ3_checkIndex_8e157_5 rfl ?_
  refine jj_icmp_ltT (tgt := 16) C dJ3_checkIndex_8e157_6 (by decide) (by decide) ?_
  refine jj_iload_n C dJ3_checkIndex_8e157_16 rfl ?_
  exact jj_iret C ⟨rfl, rfl⟩ dJ3_checkIndex_8e157_17 (jj_le rfl) (jj_le rfl)

set_option maxHeartbeats 4000000 in
set_option maxRecDepth 100000 in
theorem ct_J0_checkIndex_df160_s12 {l : Launch} (hl : l.stackTraces = false) (D : va_G) (cA : Nat → ClassId) (ak : (Nat → Nat) × (Nat → Nat)) : jj_M l D cA ak yJ0_checkIndex_df160 (.code yJ0_checkIndex_df160 cJ0_checkIndex_df160 2 none) 1 22 0 0 [] [.int 7, .int 8] (fun (w : va_W) (r : Option Value) => (w = [] ∧ r = none)) jj_noX := by
  refine jj_start hl (by decide) jw_73f64df4e3 (jj_le rfl) ?_
  intro p e s m args below meth c A hargs hA C hex hmn
  refine jj_iload_n C dJ0_checkIndex_df160_0 rfl ?_
  refine jj_iload_n C dJ0_checkIndex_df160_1 rfl ?_
  refine jj_gfm C jw_040150fc39 dJ0_checkIndex_df160_2 (fun t_1 => ?_) ?_
  · refine jq_callS (rest := []) C (ct_J3_checkIndex_8e157_s23 hl D cA ak t_1) [] [] rfl rfl (by decide) (by decide) (by decide) jw_a7a8b385a1 jw_8d35bed6b0 jw_2c7dffdd00 jw_da9869a695 jn_J3_checkIndex_8e157 rfl (jj_le rfl) (jj_le rfl) (jj_le rfl) (jj_le rfl) (jj_le rfl) dJ0_checkIndex_df160_5 rfl (fun _ _ hX => hX.elim) (fun w1 r O_3 => ?_)
    obtain ⟨rfl, rfl⟩ := O_3
    refine jj_apd rfl ?_
    refine jj_pop C dJ0_checkIndex_df160_8 rfl ?_
    exact jj_vret C ⟨rfl, rfl⟩ dJ0_checkIndex_df160_9 (jj_le rfl) (jj_le rfl)
  · refine jq_callS (rest := []) C (ct_J3_checkIndex_8e157_s24 hl D cA ak) [] [] rfl rfl (by decide) (by decide) (by decide) jw_a7a8b385a1 jw_8d35bed6b0 jw_2c7dffdd00 jw_da9869a695 jn_J3_checkIndex_8e157 rfl (jj_le rfl) (jj_le rfl) (jj_le rfl) (jj_le rfl) (jj_le rfl) dJ0_checkIndex_df160_5 rfl (fun _ _ hX => hX.elim) (fun w1 r O_5 => ?_)
    obtain ⟨rfl, rfl⟩ := O_5
    refine jj_apd rfl ?_
    refine jj_pop C dJ0_checkIndex_df160_8 rfl ?_
    exact jj_vret C ⟨rfl, rfl⟩ dJ0_checkIndex_df160_9 (jj_le rfl) (jj_le rfl)

set_option maxHeartbeats 4000000 in
set_option maxRecDepth 100000 in
theorem ct_J1_charAt_3b067_s12 {l : Launch} (hl : l.stackTraces = false) (D : va_G) (cA : Nat → ClassId) (ak : (Nat → Nat) × (Nat → Nat)) : jj_M l D cA ak yJ1_charAt_3b067 (.code yJ1_charAt_3b067 cJ1_charAt_3b067 2 (some .char)) 2 43 0 0 [] [.ref (ak.2 34), .int 7] (fun (w : va_W) (r : Option Value) => (w = [] ∧ r = some (.int 32))) jj_noX := by
  refine jj_start hl (by decide) jw_6996a9eac3 (jj_le rfl) ?_
  intro p e s m args below meth c A hargs hA C hex hmn
  refine jj_iload_n C dJ1_charAt_3b067_0 rfl ?_
  refine jj_aload_n C dJ1_charAt_3b067_1 rfl ?_
  refine jj_slen (k := 34) (v := 8) C (by decide) (by decide) dJ1_charAt_3b067_2 ?_
  refine jq_callS (rest := []) C (ct_J0_checkIndex_df160_s12 hl D cA ak) [] [] rfl rfl (by decide) (by decide) (by decide) jw_763fabfbf2 jw_9aa540e9dd jw_4ea6285965 jw_73f64df4e3 jn_J0_checkIndex_df160 rfl (jj_le rfl) (jj_le rfl) (jj_le rfl) (jj_le rfl) (jj_le rfl) dJ1_charAt_3b067_3 rfl (fun _ _ hX => hX.elim) (fun w1 r O_2 => ?_)
  obtain ⟨rfl, rfl⟩ := O_2
  refine jj_apd rfl ?_
  refine jj_aload_n C dJ1_charAt_3b067_6 rfl ?_
  refine jj_iload_n C dJ1_charAt_3b067_7 rfl ?_
  refine jj_sbyt (k := 34) (v := 32) C (by decide) (vp_in_iff.mpr (by decide)) (by decide) dJ1_charAt_3b067_8 ?_
  refine jj_sipush (v := 255) C dJ1_charAt_3b067_9 (by decide) ?_
  refine jj_iand (v := 32) C dJ1_charAt_3b067_12 (by decide) ?_
  refine jj_i2c (v := 32) C dJ1_charAt_3b067_13 (by decide) ?_
  exact jj_zret C rfl ⟨rfl, rfl⟩ dJ1_charAt_3b067_14 (jj_le rfl) (jj_le rfl)

set_option maxHeartbeats 4000000 in
set_option maxRecDepth 100000 in
theorem ct_J0_charAt_5068e_s12 {l : Launch} (hl : l.stackTraces = false) (D : va_G) (cA : Nat → ClassId) (ak : (Nat → Nat) × (Nat → Nat)) : jj_M l D cA ak yJ0_charAt_5068e (.code yJ0_charAt_5068e cJ0_charAt_5068e 2 (some .char)) 3 64 0 0 [] [.ref (ak.1 34), .int 7] (fun (w : va_W) (r : Option Value) => (w = [] ∧ r = some (.int 32))) jj_noX := by
  refine jj_start hl (by decide) jw_391c0f56bd (jj_le rfl) ?_
  intro p e s m args below meth c A hargs hA C hex hmn
  refine jj_aload_n C dJ0_charAt_5068e_0 rfl ?_
  refine jq_callVs (rest := []) C (ct_J0_isLatin1_aae02_s2 hl D cA ak) [] [] rfl rfl (by decide) (by decide) (by decide) 34 (by decide) rfl jw_5ca960aa2e jw_b7ba7c03ae jw_c4fe6f1e08 jw_4ea6285965 jw_1aa7753999 jn_J0_isLatin1_aae02 rfl (jj_le rfl) (jj_le rfl) (jj_le rfl) (jj_le rfl) (jj_le rfl) dJ0_charAt_5068e_1 rfl (fun _ _ hX => hX.elim) (fun w1 r O_2 => ?_)
  obtain ⟨rfl, rfl⟩ := O_2
  refine jj_apd rfl ?_
  refine jj_if_eqF (tgt := 16) C dJ0_charAt_5068e_4 (by decide) (by decide) ?_
  refine jj_aload_n C dJ0_charAt_5068e_7 rfl ?_
  refine jj_sval (k := 34) C (by decide) jw_90a506b1c3 dJ0_charAt_5068e_8 ?_
  refine jj_iload_n C dJ0_charAt_5068e_11 rfl ?_
  refine jq_callS (rest := []) C (ct_J1_charAt_3b067_s12 hl D cA ak) [] [] rfl rfl (by decide) (by decide) (by decide) jw_7e2463d496 jw_530d7ac64c jw_2a3a2ce6ce jw_6996a9eac3 jn_J1_charAt_3b067 rfl (jj_le rfl) (jj_le rfl) (jj_le rfl) (jj_le rfl) (jj_le rfl) dJ0_charAt_5068e_12 rfl (fun _ _ hX => hX.elim) (fun w1 r O_4 => ?_)
  obtain ⟨rfl, rfl⟩ := O_4
  refine jj_apd rfl ?_
  exact jj_zret C rfl ⟨rfl, rfl⟩ dJ0_charAt_5068e_15 (jj_le rfl) (jj_le rfl)

set_option maxHeartbeats 4000000 in
set_option maxRecDepth 100000 in
theorem ct_J0_coder_7d493_s3 {l : Launch} (hl : l.stackTraces = false) (D : va_G) (cA : Nat → ClassId) (ak : (Nat → Nat) × (Nat → Nat)) : jj_M l D cA ak yJ0_coder_7d493 (.code yJ0_coder_7d493 cJ0_coder_7d493 1 (some .byte)) 0 0 0 0 [] [.ref (ak.1 35)] (fun (w : va_W) (r : Option Value) => (w = [] ∧ r = some (.int 0))) jj_noX := by
  refine jj_start hl (by decide) jw_084b973d83 (jj_le rfl) ?_
  intro p e s m args below meth c A hargs hA C hex hmn
  refine jj_gcs C jw_478bb18c33 dJ0_coder_7d493_0 ?_
  refine jj_if_eqF (tgt := 13) C dJ0_coder_7d493_3 (by decide) (by decide) ?_
  refine jj_aload_n C dJ0_coder_7d493_6 rfl ?_
  refine jj_scod (k := 35) C (by decide) jw_7816d6e515 dJ0_coder_7d493_7 ?_
  refine jj_goto (tgt := 14) C dJ0_coder_7d493_10 (by decide) ?_
  exact jj_zret C rfl ⟨rfl, rfl⟩ dJ0_coder_7d493_14 (jj_le rfl) (jj_le rfl)

set_option maxHeartbeats 4000000 in
set_option maxRecDepth 100000 in
theorem ct_J0_length_8abf5_s3 {l : Launch} (hl : l.stackTraces = false) (D : va_G) (cA : Nat → ClassId) (ak : (Nat → Nat) × (Nat → Nat)) : jj_M l D cA ak yJ0_length_8abf5 (.code yJ0_length_8abf5 cJ0_length_8abf5 1 (some .int)) 1 20 0 0 [] [.ref (ak.1 35)] (fun (w : va_W) (r : Option Value) => (w = [] ∧ r = some (.int 7))) jj_noX := by
  refine jj_start hl (by decide) jw_bbc7045666 (jj_le rfl) ?_
  intro p e s m args below meth c A hargs hA C hex hmn
  refine jj_aload_n C dJ0_length_8abf5_0 rfl ?_
  refine jj_sval (k := 35) C (by decide) jw_90a506b1c3 dJ0_length_8abf5_1 ?_
  refine jj_slen (k := 35) (v := 7) C (by decide) (by decide) dJ0_length_8abf5_4 ?_
  refine jj_aload_n C dJ0_length_8abf5_5 rfl ?_
  refine jq_callVs (rest := [.int 7]) C (ct_J0_coder_7d493_s3 hl D cA ak) [] [] rfl rfl (by decide) (by decide) (by decide) 35 (by decide) rfl jw_f46b3464d2 jw_35edddbded jw_31f76f5b78 jw_4ea6285965 jw_084b973d83 jn_J0_coder_7d493 rfl (jj_le rfl) (jj_le rfl) (jj_le rfl) (jj_le rfl) (jj_le rfl) dJ0_length_8abf5_6 rfl (fun _ _ hX => hX.elim) (fun w1 r O_2 => ?_)
  obtain ⟨rfl, rfl⟩ := O_2
  refine jj_apd rfl ?_
  refine jj_ishr (v := 7) C dJ0_length_8abf5_9 (by decide) ?_
  exact jj_iret C ⟨rfl, rfl⟩ dJ0_length_8abf5_10 (jj_le rfl) (jj_le rfl)

set_option maxHeartbeats 4000000 in
set_option maxRecDepth 100000 in
theorem ct_J0_isLatin1_aae02_s3 {l : Launch} (hl : l.stackTraces = false) (D : va_G) (cA : Nat → ClassId) (ak : (Nat → Nat) × (Nat → Nat)) : jj_M l D cA ak yJ0_isLatin1_aae02 (.code yJ0_isLatin1_aae02 cJ0_isLatin1_aae02 1 (some .boolean)) 0 0 0 0 [] [.ref (ak.1 35)] (fun (w : va_W) (r : Option Value) => (w = [] ∧ r = some (.int 1))) jj_noX := by
  refine jj_start hl (by decide) jw_1aa7753999 (jj_le rfl) ?_
  intro p e s m args below meth c A hargs hA C hex hmn
  refine jj_gcs C jw_478bb18c33 dJ0_isLatin1_aae02_0 ?_
  refine jj_if_eqF (tgt := 17) C dJ0_isLatin1_aae02_3 (by decide) (by decide) ?_
  refine jj_aload_n C dJ0_isLatin1_aae02_6 rfl ?_
  refine jj_scod (k := 35) C (by decide) jw_7816d6e515 dJ0_isLatin1_aae02_7 ?_
  refine jj_if_neF (tgt := 17) C dJ0_isLatin1_aae02_10 (by decide) (by decide) ?_
  refine jj_iconst (v := 1) C dJ0_isLatin1_aae02_13 (by decide) ?_
  refine jj_goto (tgt := 18) C dJ0_isLatin1_aae02_14 (by decide) ?_
  exact jj_zret C rfl ⟨rfl, rfl⟩ dJ0_isLatin1_aae02_18 (jj_le rfl) (jj_le rfl)

set_option maxHeartbeats 4000000 in
set_option maxRecDepth 100000 in
theorem ct_J3_checkIndex_8e157_s25 {l : Launch} (hl : l.stackTraces = false) (D : va_G) (cA : Nat → ClassId) (ak : (Nat → Nat) × (Nat → Nat)) (h0 : Nat) : jj_M l D cA ak yJ3_checkIndex_8e157 (.code yJ3_checkIndex_8e157 cJ3_checkIndex_8e157 3 (some .int)) 0 0 0 0 [] [.int 0, .int 7, .ref h0] (fun (w : va_W) (r : Option Value) => (w = [] ∧ r = some (.int 0))) jj_noX := by
  refine jj_start hl (by decide) jw_da9869a695 (jj_le rfl) ?_
  intro p e s m args below meth c A hargs hA C hex hmn
  refine jj_iload_n C dJ3_checkIndex_8e157_0 rfl ?_
  refine jj_if_ltF (tgt := 9) C dJ3_checkIndex_8e157_1 (by decide) (by decide) ?_
  refine jj_iload_n C dJ3_checkIndex_8e157_4 rfl ?_
  refine jj_iload_n C dJ3_checkIndex_8e157_5 rfl ?_
  refine jj_icmp_ltT (tgt := 16) C dJ3_checkIndex_8e157_6 (by decide) (by decide) ?_
  refine jj_iload_n C dJ3_checkIndex_8e157_16 rfl ?_
  exact jj_iret C ⟨rfl, rfl⟩ dJ3_checkIndex_8e157_17 (jj_le rfl) (jj_le rfl)

set_option maxHeartbeats 4000000 in
set_option maxRecDepth 100000 in
theorem ct_J3_checkIndex_8e157_s26 {l : Launch} (hl : l.stackTraces = false) (D : va_G) (cA : Nat → ClassId) (ak : (Nat → Nat) × (Nat → Nat)) : jj_M l D cA ak yJ3_checkIndex_8e157 (.code yJ3_checkIndex_8e157 cJ3_checkIndex_8e157 3 (some .int)) 0 0 0 0 [] [.int 0, .int 7, .null] (fun (w : va_W) (r : Option Value) => (w = [] ∧ r = some (.int 0))) jj_noX := by
  refine jj_start hl (by decide) jw_da9869a695 (jj_le rfl) ?_
  intro p e s m args below meth c A hargs hA C hex hmn
  refine jj_iload_n C dJ3_checkIndex_8e157_0 rfl ?_
  refine jj_if_ltF (tgt := 9) C dJ3_checkIndex_8e157_1 (by decide) (by decide) ?_
  refine jj_iload_n C dJ3_checkIndex_8e157_4 rfl ?_
  refine jj_iload_n C dJ3_checkIndex_8e157_5 rfl ?_
  refine jj_icmp_ltT (tgt := 16) C dJ3_checkIndex_8e157_6 (by decide) (by decide) ?_
  refine jj_iload_n C dJ3_checkIndex_8e157_16 rfl ?_
  exact jj_iret C ⟨rfl, rfl⟩ dJ3_checkIndex_8e157_17 (jj_le rfl) (jj_le rfl)

set_option maxHeartbeats 4000000 in
set_option maxRecDepth 100000 in
theorem ct_J0_checkIndex_df160_s13 {l : Launch} (hl : l.stackTraces = false) (D : va_G) (cA : Nat → ClassId) (ak : (Nat → Nat) × (Nat → Nat)) : jj_M l D cA ak yJ0_checkIndex_df160 (.code yJ0_checkIndex_df160 cJ0_checkIndex_df160 2 none) 1 22 0 0 [] [.int 0, .int 7] (fun (w : va_W) (r : Option Value) => (w = [] ∧ r = none)) jj_noX := by
  refine jj_start hl (by decide) jw_73f64df4e3 (jj_le rfl) ?_
  intro p e s m args below meth c A hargs hA C hex hmn
  refine jj_iload_n C dJ0_checkIndex_df160_0 rfl ?_
  refine jj_iload_n C dJ0_checkIndex_df160_1 rfl ?_
  refine jj_gfm C jw_040150fc39 dJ0_checkIndex_df160_2 (fun t_1 => ?_) ?_
  · refine jq_callS (rest := []) C (ct_J3_checkIndex_8e157_s25 hl D cA ak t_1) [] [] rfl rfl (by decide) (by decide) (by decide) jw_a7a8b385a1 jw_8d35bed6b0 jw_2c7dffdd00 jw_da9869a695 jn_J3_checkIndex_8e157 rfl (jj_le rfl) (jj_le rfl) (jj_le rfl) (jj_le rfl) (jj_le rfl) dJ0_checkIndex_df160_5 rfl (fun _ _ hX => hX.elim) (fun w1 r O_3 => ?_)
    obtain ⟨rfl, rfl⟩ := O_3
    refine jj_apd rfl ?_
    refine jj_pop C dJ0_checkIndex_df160_8 rfl ?_
    exact jj_vret C ⟨rfl, rfl⟩ dJ0_checkIndex_df160_9 (jj_le rfl) (jj_le rfl)
  · refine jq_callS (rest := []) C (ct_J3_checkIndex_8e157_s26 hl D cA ak) [] [] rfl rfl (by decide) (by decide) (by decide) jw_a7a8b385a1 jw_8d35bed6b0 jw_2c7dffdd00 jw_da9869a695 jn_J3_checkIndex_8e157 rfl (jj_le rfl) (jj_le rfl) (jj_le rfl) (jj_le rfl) (jj_le rfl) dJ0_checkIndex_df160_5 rfl (fun _ _ hX => hX.elim) (fun w1 r O_5 => ?_)
    obtain ⟨rfl, rfl⟩ := O_5
    refine jj_apd rfl ?_
    refine jj_pop C dJ0_checkIndex_df160_8 rfl ?_
    exact jj_vret C ⟨rfl, rfl⟩ dJ0_checkIndex_df160_9 (jj_le rfl) (jj_le rfl)

set_option maxHeartbeats 4000000 in
set_option maxRecDepth 100000 in
theorem ct_J1_charAt_3b067_s13 {l : Launch} (hl : l.stackTraces = false) (D : va_G) (cA : Nat → ClassId) (ak : (Nat → Nat) × (Nat → Nat)) : jj_M l D cA ak yJ1_charAt_3b067 (.code yJ1_charAt_3b067 cJ1_charAt_3b067 2 (some .char)) 2 43 0 0 [] [.ref (ak.2 35), .int 0] (fun (w : va_W) (r : Option Value) => (w = [] ∧ r = some (.int 115))) jj_noX := by
  refine jj_start hl (by decide) jw_6996a9eac3 (jj_le rfl) ?_
  intro p e s m args below meth c A hargs hA C hex hmn
  refine jj_iload_n C dJ1_charAt_3b067_0 rfl ?_
  refine jj_aload_n C dJ1_charAt_3b067_1 rfl ?_
  refine jj_slen (k := 35) (v := 7) C (by decide) (by decide) dJ1_charAt_3b067_2 ?_
  refine jq_callS (rest := []) C (ct_J0_checkIndex_df160_s13 hl D cA ak) [] [] rfl rfl (by decide) (by decide) (by decide) jw_763fabfbf2 jw_9aa540e9dd jw_4ea6285965 jw_73f64df4e3 jn_J0_checkIndex_df160 rfl (jj_le rfl) (jj_le rfl) (jj_le rfl) (jj_le rfl) (jj_le rfl) dJ1_charAt_3b067_3 rfl (fun _ _ hX => hX.elim) (fun w1 r O_2 => ?_)
  obtain ⟨rfl, rfl⟩ := O_2
  refine jj_apd rfl ?_
  refine jj_aload_n C dJ1_charAt_3b067_6 rfl ?_
  refine jj_iload_n C dJ1_charAt_3b067_7 rfl ?_
  refine jj_sbyt (k := 35) (v := 115) C (by decide) (vp_in_iff.mpr (by decide)) (by decide) dJ1_charAt_3b067_8 ?_
  refine jj_sipush (v := 255) C dJ1_charAt_3b067_9 (by decide) ?_
  refine jj_iand (v := 115) C dJ1_charAt_3b067_12 (by decide) ?_
  refine jj_i2c (v := 115) C dJ1_charAt_3b067_13 (by decide) ?_
  exact jj_zret C rfl ⟨rfl, rfl⟩ dJ1_charAt_3b067_14 (jj_le rfl) (jj_le rfl)

set_option maxHeartbeats 4000000 in
set_option maxRecDepth 100000 in
theorem ct_J0_charAt_5068e_s13 {l : Launch} (hl : l.stackTraces = false) (D : va_G) (cA : Nat → ClassId) (ak : (Nat → Nat) × (Nat → Nat)) : jj_M l D cA ak yJ0_charAt_5068e (.code yJ0_charAt_5068e cJ0_charAt_5068e 2 (some .char)) 3 64 0 0 [] [.ref (ak.1 35), .int 0] (fun (w : va_W) (r : Option Value) => (w = [] ∧ r = some (.int 115))) jj_noX := by
  refine jj_start hl (by decide) jw_391c0f56bd (jj_le rfl) ?_
  intro p e s m args below meth c A hargs hA C hex hmn
  refine jj_aload_n C dJ0_charAt_5068e_0 rfl ?_
  refine jq_callVs (rest := []) C (ct_J0_isLatin1_aae02_s3 hl D cA ak) [] [] rfl rfl (by decide) (by decide) (by decide) 35 (by decide) rfl jw_5ca960aa2e jw_b7ba7c03ae jw_c4fe6f1e08 jw_4ea6285965 jw_1aa7753999 jn_J0_isLatin1_aae02 rfl (jj_le rfl) (jj_le rfl) (jj_le rfl) (jj_le rfl) (jj_le rfl) dJ0_charAt_5068e_1 rfl (fun _ _ hX => hX.elim) (fun w1 r O_2 => ?_)
  obtain ⟨rfl, rfl⟩ := O_2
  refine jj_apd rfl ?_
  refine jj_if_eqF (tgt := 16) C dJ0_charAt_5068e_4 (by decide) (by decide) ?_
  refine jj_aload_n C dJ0_charAt_5068e_7 rfl ?_
  refine jj_sval (k := 35) C (by decide) jw_90a506b1c3 dJ0_charAt_5068e_8 ?_
  refine jj_iload_n C dJ0_charAt_5068e_11 rfl ?_
  refine jq_callS (rest := []) C (ct_J1_charAt_3b067_s13 hl D cA ak) [] [] rfl rfl (by decide) (by decide) (by decide) jw_7e2463d496 jw_530d7ac64c jw_2a3a2ce6ce jw_6996a9eac3 jn_J1_charAt_3b067 rfl (jj_le rfl) (jj_le rfl) (jj_le rfl) (jj_le rfl) (jj_le rfl) dJ0_charAt_5068e_12 rfl (fun _ _ hX => hX.elim) (fun w1 r O_4 => ?_)
  obtain ⟨rfl, rfl⟩ := O_4
  refine jj_apd rfl ?_
  exact jj_zret C rfl ⟨rfl, rfl⟩ dJ0_charAt_5068e_15 (jj_le rfl) (jj_le rfl)

set_option maxHeartbeats 4000000 in
set_option maxRecDepth 100000 in
theorem ct_J3_checkIndex_8e157_s27 {l : Launch} (hl : l.stackTraces = false) (D : va_G) (cA : Nat → ClassId) (ak : (Nat → Nat) × (Nat → Nat)) (h0 : Nat) : jj_M l D cA ak yJ3_checkIndex_8e157 (.code yJ3_checkIndex_8e157 cJ3_checkIndex_8e157 3 (some .int)) 0 0 0 0 [] [.int 1, .int 7, .ref h0] (fun (w : va_W) (r : Option Value) => (w = [] ∧ r = some (.int 1))) jj_noX := by
  refine jj_start hl (by decide) jw_da9869a695 (jj_le rfl) ?_
  intro p e s m args below meth c A hargs hA C hex hmn
  refine jj_iload_n C dJ3_checkIndex_8e157_0 rfl ?_
  refine jj_if_ltF (tgt := 9) C dJ3_checkIndex_8e157_1 (by decide) (by decide) ?_
  refine jj_iload_n C dJ3_checkIndex_8e157_4 rfl ?_
  refine jj_iload_n C dJ3_checkIndex_8e157_5 rfl ?_
  refine jj_icmp_ltT (tgt := 16) C dJ3_checkIndex_8e157_6 (by decide) (by decide) ?_
  refine jj_iload_n C dJ3_checkIndex_8e157_16 rfl ?_
  exact jj_iret C ⟨rfl, rfl⟩ dJ3_checkIndex_8e157_17 (jj_le rfl) (jj_le rfl)

set_option maxHeartbeats 4000000 in
set_option maxRecDepth 100000 in
theorem ct_J3_checkIndex_8e157_s28 {l : Launch} (hl : l.stackTraces = false) (D : va_G) (cA : Nat → ClassId) (ak : (Nat → Nat) × (Nat → Nat)) : jj_M l D cA ak yJ3_checkIndex_8e157 (.code yJ3_checkIndex_8e157 cJ3_checkIndex_8e157 3 (some .int)) 0 0 0 0 [] [.int 1, .int 7, .null] (fun (w : va_W) (r : Option Value) => (w = [] ∧ r = some (.int 1))) jj_noX := by
  refine jj_start hl (by decide) jw_da9869a695 (jj_le rfl) ?_
  intro p e s m args below meth c A hargs hA C hex hmn
  refine jj_iload_n C dJ3_checkIndex_8e157_0 rfl ?_
  refine jj_if_ltF (tgt := 9) C dJ3_checkIndex_8e157_1 (by decide) (by decide) ?_
  refine jj_iload_n C dJ3_checkIndex_8e157_4 rfl ?_
  refine jj_iload_n C dJ3_checkIndex_8e157_5 rfl ?_
  refine jj_icmp_ltT (tgt := 16) C dJ3_checkIndex_8e157_6 (by decide) (by decide) ?_
  refine jj_iload_n C dJ3_checkIndex_8e157_16 rfl ?_
  exact jj_iret C ⟨rfl, rfl⟩ dJ3_checkIndex_8e157_17 (jj_le rfl) (jj_le rfl)

set_option maxHeartbeats 4000000 in
set_option maxRecDepth 100000 in
theorem ct_J0_checkIndex_df160_s14 {l : Launch} (hl : l.stackTraces = false) (D : va_G) (cA : Nat → ClassId) (ak : (Nat → Nat) × (Nat → Nat)) : jj_M l D cA ak yJ0_checkIndex_df160 (.code yJ0_checkIndex_df160 cJ0_checkIndex_df160 2 none) 1 22 0 0 [] [.int 1, .int 7] (fun (w : va_W) (r : Option Value) => (w = [] ∧ r = none)) jj_noX := by
  refine jj_start hl (by decide) jw_73f64df4e3 (jj_le rfl) ?_
  intro p e s m args below meth c A hargs hA C hex hmn
  refine jj_iload_n C dJ0_checkIndex_df160_0 rfl ?_
  refine jj_iload_n C dJ0_checkIndex_df160_1 rfl ?_
  refine jj_gfm C jw_040150fc39 dJ0_checkIndex_df160_2 (fun t_1 => ?_) ?_
  · refine jq_callS (rest := []) C (ct_J3_checkIndex_8e157_s27 hl D cA ak t_1) [] [] rfl rfl (by decide) (by decide) (by decide) jw_a7a8b385a1 jw_8d35bed6b0 jw_2c7dffdd00 jw_da9869a695 jn_J3_checkIndex_8e157 rfl (jj_le rfl) (jj_le rfl) (jj_le rfl) (jj_le rfl) (jj_le rfl) dJ0_checkIndex_df160_5 rfl (fun _ _ hX => hX.elim) (fun w1 r O_3 => ?_)
    obtain ⟨rfl, rfl⟩ := O_3
    refine jj_apd rfl ?_
    refine jj_pop C dJ0_checkIndex_df160_8 rfl ?_
    exact jj_vret C ⟨rfl, rfl⟩ dJ0_checkIndex_df160_9 (jj_le rfl) (jj_le rfl)
  · refine jq_callS (rest := []) C (ct_J3_checkIndex_8e157_s28 hl D cA ak) [] [] rfl rfl (by decide) (by decide) (by decide) jw_a7a8b385a1 jw_8d35bed6b0 jw_2c7dffdd00 jw_da9869a695 jn_J3_checkIndex_8e157 rfl (jj_le rfl) (jj_le rfl) (jj_le rfl) (jj_le rfl) (jj_le rfl) dJ0_checkIndex_df160_5 rfl (fun _ _ hX => hX.elim) (fun w1 r O_5 => ?_)
    obtain ⟨rfl, rfl⟩ := O_5
    refine jj_apd rfl ?_
    refine jj_pop C dJ0_checkIndex_df160_8 rfl ?_
    exact jj_vret C ⟨rfl, rfl⟩ dJ0_checkIndex_df160_9 (jj_le rfl) (jj_le rfl)

set_option maxHeartbeats 4000000 in
set_option maxRecDepth 100000 in
theorem ct_J1_charAt_3b067_s14 {l : Launch} (hl : l.stackTraces = false) (D : va_G) (cA : Nat → ClassId) (ak : (Nat → Nat) × (Nat → Nat)) : jj_M l D cA ak yJ1_charAt_3b067 (.code yJ1_charAt_3b067 cJ1_charAt_3b067 2 (some .char)) 2 43 0 0 [] [.ref (ak.2 35), .int 1] (fun (w : va_W) (r : Option Value) => (w = [] ∧ r = some (.int 101))) jj_noX := by
  refine jj_start hl (by decide) jw_6996a9eac3 (jj_le rfl) ?_
  intro p e s m args below meth c A hargs hA C hex hmn
  refine jj_iload_n C dJ1_charAt_3b067_0 rfl ?_
  refine jj_aload_n C dJ1_charAt_3b067_1 rfl ?_
  refine jj_slen (k := 35) (v := 7) C (by decide) (by decide) dJ1_charAt_3b067_2 ?_
  refine jq_callS (rest := []) C (ct_J0_checkIndex_df160_s14 hl D cA ak) [] [] rfl rfl (by decide) (by decide) (by decide) jw_763fabfbf2 jw_9aa540e9dd jw_4ea6285965 jw_73f64df4e3 jn_J0_checkIndex_df160 rfl (jj_le rfl) (jj_le rfl) (jj_le rfl) (jj_le rfl) (jj_le rfl) dJ1_charAt_3b067_3 rfl (fun _ _ hX => hX.elim) (fun w1 r O_2 => ?_)
  obtain ⟨rfl, rfl⟩ := O_2
  refine jj_apd rfl ?_
  refine jj_aload_n C dJ1_charAt_3b067_6 rfl ?_
  refine jj_iload_n C dJ1_charAt_3b067_7 rfl ?_
  refine jj_sbyt (k := 35) (v := 101) C (by decide) (vp_in_iff.mpr (by decide)) (by decide) dJ1_charAt_3b067_8 ?_
  refine jj_sipush (v := 255) C dJ1_charAt_3b067_9 (by decide) ?_
  refine jj_iand (v := 101) C dJ1_charAt_3b067_12 (by decide) ?_
  refine jj_i2c (v := 101) C dJ1_charAt_3b067_13 (by decide) ?_
  exact jj_zret C rfl ⟨rfl, rfl⟩ dJ1_charAt_3b067_14 (jj_le rfl) (jj_le rfl)

set_option maxHeartbeats 4000000 in
set_option maxRecDepth 100000 in
theorem ct_J0_charAt_5068e_s14 {l : Launch} (hl : l.stackTraces = false) (D : va_G) (cA : Nat → ClassId) (ak : (Nat → Nat) × (Nat → Nat)) : jj_M l D cA ak yJ0_charAt_5068e (.code yJ0_charAt_5068e cJ0_charAt_5068e 2 (some .char)) 3 64 0 0 [] [.ref (ak.1 35), .int 1] (fun (w : va_W) (r : Option Value) => (w = [] ∧ r = some (.int 101))) jj_noX := by
  refine jj_start hl (by decide) jw_391c0f56bd (jj_le rfl) ?_
  intro p e s m args below meth c A hargs hA C hex hmn
  refine jj_aload_n C dJ0_charAt_5068e_0 rfl ?_
  refine jq_callVs (rest := []) C (ct_J0_isLatin1_aae02_s3 hl D cA ak) [] [] rfl rfl (by decide) (by decide) (by decide) 35 (by decide) rfl jw_5ca960aa2e jw_b7ba7c03ae jw_c4fe6f1e08 jw_4ea6285965 jw_1aa7753999 jn_J0_isLatin1_aae02 rfl (jj_le rfl) (jj_le rfl) (jj_le rfl) (jj_le rfl) (jj_le rfl) dJ0_charAt_5068e_1 rfl (fun _ _ hX => hX.elim) (fun w1 r O_2 => ?_)
  obtain ⟨rfl, rfl⟩ := O_2
  refine jj_apd rfl ?_
  refine jj_if_eqF (tgt := 16) C dJ0_charAt_5068e_4 (by decide) (by decide) ?_
  refine jj_aload_n C dJ0_charAt_5068e_7 rfl ?_
  refine jj_sval (k := 35) C (by decide) jw_90a506b1c3 dJ0_charAt_5068e_8 ?_
  refine jj_iload_n C dJ0_charAt_5068e_11 rfl ?_
  refine jq_callS (rest := []) C (ct_J1_charAt_3b067_s14 hl D cA ak) [] [] rfl rfl (by decide) (by decide) (by decide) jw_7e2463d496 jw_530d7ac64c jw_2a3a2ce6ce jw_6996a9eac3 jn_J1_charAt_3b067 rfl (jj_le rfl) (jj_le rfl) (jj_le rfl) (jj_le rfl) (jj_le rfl) dJ0_charAt_5068e_12 rfl (fun _ _ hX => hX.elim) (fun w1 r O_4 => ?_)
  obtain ⟨rfl, rfl⟩ := O_4
  refine jj_apd rfl ?_
  exact jj_zret C rfl ⟨rfl, rfl⟩ dJ0_charAt_5068e_15 (jj_le rfl) (jj_le rfl)

set_option maxHeartbeats 4000000 in
set_option maxRecDepth 100000 in
theorem ct_J3_checkIndex_8e157_s29 {l : Launch} (hl : l.stackTraces = false) (D : va_G) (cA : Nat → ClassId) (ak : (Nat → Nat) × (Nat → Nat)) (h0 : Nat) : jj_M l D cA ak yJ3_checkIndex_8e157 (.code yJ3_checkIndex_8e157 cJ3_checkIndex_8e157 3 (some .int)) 0 0 0 0 [] [.int 2, .int 7, .ref h0] (fun (w : va_W) (r : Option Value) => (w = [] ∧ r = some (.int 2))) jj_noX := by
  refine jj_start hl (by decide) jw_da9869a695 (jj_le rfl) ?_
  intro p e s m args below meth c A hargs hA C hex hmn
  refine jj_iload_n C dJ3_checkIndex_8e157_0 rfl ?_
  refine jj_if_ltF (tgt := 9) C dJ3_checkIndex_8e157_1 (by decide) (by decide) ?_
  refine jj_iload_n C dJ3_checkIndex_8e157_4 rfl ?_
  refine jj_iload_n C dJ3_checkIndex_8e157_5 rfl ?_
  refine jj_icmp_ltT (tgt := 16) C dJ3_checkIndex_8e157_6 (by decide) (by decide) ?_
  refine jj_iload_n C dJ3_checkIndex_8e157_16 rfl ?_
  exact jj_iret C ⟨rfl, rfl⟩ dJ3_checkIndex_8e157_17 (jj_le rfl) (jj_le rfl)

set_option maxHeartbeats 4000000 in
set_option maxRecDepth 100000 in
theorem ct_J3_checkIndex_8e157_s30 {l : Launch} (hl : l.stackTraces = false) (D : va_G) (cA : Nat → ClassId) (ak : (Nat → Nat) × (Nat → Nat)) : jj_M l D cA ak yJ3_checkIndex_8e157 (.code yJ3_checkIndex_8e157 cJ3_checkIndex_8e157 3 (some .int)) 0 0 0 0 [] [.int 2, .int 7, .null] (fun (w : va_W) (r : Option Value) => (w = [] ∧ r = some (.int 2))) jj_noX := by
  refine jj_start hl (by decide) jw_da9869a695 (jj_le rfl) ?_
  intro p e s m args below meth c A hargs hA C hex hmn
  refine jj_iload_n C dJ3_checkIndex_8e157_0 rfl ?_
  refine jj_if_ltF (tgt := 9) C dJ3_checkIndex_8e157_1 (by decide) (by decide) ?_
  refine jj_iload_n C dJ3_checkIndex_8e157_4 rfl ?_
  refine jj_iload_n C dJ3_checkIndex_8e157_5 rfl ?_
  refine jj_icmp_ltT (tgt := 16) C dJ3_checkIndex_8e157_6 (by decide) (by decide) ?_
  refine jj_iload_n C dJ3_checkIndex_8e157_16 rfl ?_
  exact jj_iret C ⟨rfl, rfl⟩ dJ3_checkIndex_8e157_17 (jj_le rfl) (jj_le rfl)

set_option maxHeartbeats 4000000 in
set_option maxRecDepth 100000 in
theorem ct_J0_checkIndex_df160_s15 {l : Launch} (hl : l.stackTraces = false) (D : va_G) (cA : Nat → ClassId) (ak : (Nat → Nat) × (Nat → Nat)) : jj_M l D cA ak yJ0_checkIndex_df160 (.code yJ0_checkIndex_df160 cJ0_checkIndex_df160 2 none) 1 22 0 0 [] [.int 2, .int 7] (fun (w : va_W) (r : Option Value) => (w = [] ∧ r = none)) jj_noX := by
  refine jj_start hl (by decide) jw_73f64df4e3 (jj_le rfl) ?_
  intro p e s m args below meth c A hargs hA C hex hmn
  refine jj_iload_n C dJ0_checkIndex_df160_0 rfl ?_
  refine jj_iload_n C dJ0_checkIndex_df160_1 rfl ?_
  refine jj_gfm C jw_040150fc39 dJ0_checkIndex_df160_2 (fun t_1 => ?_) ?_
  · refine jq_callS (rest := []) C (ct_J3_checkIndex_8e157_s29 hl D cA ak t_1) [] [] rfl rfl (by decide) (by decide) (by decide) jw_a7a8b385a1 jw_8d35bed6b0 jw_2c7dffdd00 jw_da9869a695 jn_J3_checkIndex_8e157 rfl (jj_le rfl) (jj_le rfl) (jj_le rfl) (jj_le rfl) (jj_le rfl) dJ0_checkIndex_df160_5 rfl (fun _ _ hX => hX.elim) (fun w1 r O_3 => ?_)
    obtain ⟨rfl, rfl⟩ := O_3
    refine jj_apd rfl ?_
    refine jj_pop C dJ0_checkIndex_df160_8 rfl ?_
    exact jj_vret C ⟨rfl, rfl⟩ dJ0_checkIndex_df160_9 (jj_le rfl) (jj_le rfl)
  · refine jq_callS (rest := []) C (ct_J3_checkIndex_8e157_s30 hl D cA ak) [] [] rfl rfl (by decide) (by decide) (by decide) jw_a7a8b385a1 jw_8d35bed6b0 jw_2c7dffdd00 jw_da9869a695 jn_J3_checkIndex_8e157 rfl (jj_le rfl) (jj_le rfl) (jj_le rfl) (jj_le rfl) (jj_le rfl) dJ0_checkIndex_df160_5 rfl (fun _ _ hX => hX.elim) (fun w1 r O_5 => ?_)
    obtain ⟨rfl, rfl⟩ := O_5
    refine jj_apd rfl ?_
    refine jj_pop C dJ0_checkIndex_df160_8 rfl ?_
    exact jj_vret C ⟨rfl, rfl⟩ dJ0_checkIndex_df160_9 (jj_le rfl) (jj_le rfl)

set_option maxHeartbeats 4000000 in
set_option maxRecDepth 100000 in
theorem ct_J1_charAt_3b067_s15 {l : Launch} (hl : l.stackTraces = false) (D : va_G) (cA : Nat → ClassId) (ak : (Nat → Nat) × (Nat → Nat)) : jj_M l D cA ak yJ1_charAt_3b067 (.code yJ1_charAt_3b067 cJ1_charAt_3b067 2 (some .char)) 2 43 0 0 [] [.ref (ak.2 35), .int 2] (fun (w : va_W) (r : Option Value) => (w = [] ∧ r = some (.int 114))) jj_noX := by
  refine jj_start hl (by decide) jw_6996a9eac3 (jj_le rfl) ?_
  intro p e s m args below meth c A hargs hA C hex hmn
  refine jj_iload_n C dJ1_charAt_3b067_0 rfl ?_
  refine jj_aload_n C dJ1_charAt_3b067_1 rfl ?_
  refine jj_slen (k := 35) (v := 7) C (by decide) (by decide) dJ1_charAt_3b067_2 ?_
  refine jq_callS (rest := []) C (ct_J0_checkIndex_df160_s15 hl D cA ak) [] [] rfl rfl (by decide) (by decide) (by decide) jw_763fabfbf2 jw_9aa540e9dd jw_4ea6285965 jw_73f64df4e3 jn_J0_checkIndex_df160 rfl (jj_le rfl) (jj_le rfl) (jj_le rfl) (jj_le rfl) (jj_le rfl) dJ1_charAt_3b067_3 rfl (fun _ _ hX => hX.elim) (fun w1 r O_2 => ?_)
  obtain ⟨rfl, rfl⟩ := O_2
  refine jj_apd rfl ?_
  refine jj_aload_n C dJ1_charAt_3b067_6 rfl ?_
  refine jj_iload_n C dJ1_charAt_3b067_7 rfl ?_
  refine jj_sbyt (k := 35) (v := 114) C (by decide) (vp_in_iff.mpr (by decide)) (by decide) dJ1_charAt_3b067_8 ?_
  refine jj_sipush (v := 255) C dJ1_charAt_3b067_9 (by decide) ?_
  refine jj_iand (v := 114) C dJ1_charAt_3b067_12 (by decide) ?_
  refine jj_i2c (v := 114) C dJ1_charAt_3b067_13 (by decide) ?_
  exact jj_zret C rfl ⟨rfl, rfl⟩ dJ1_charAt_3b067_14 (jj_le rfl) (jj_le rfl)

set_option maxHeartbeats 4000000 in
set_option maxRecDepth 100000 in
theorem ct_J0_charAt_5068e_s15 {l : Launch} (hl : l.stackTraces = false) (D : va_G) (cA : Nat → ClassId) (ak : (Nat → Nat) × (Nat → Nat)) : jj_M l D cA ak yJ0_charAt_5068e (.code yJ0_charAt_5068e cJ0_charAt_5068e 2 (some .char)) 3 64 0 0 [] [.ref (ak.1 35), .int 2] (fun (w : va_W) (r : Option Value) => (w = [] ∧ r = some (.int 114))) jj_noX := by
  refine jj_start hl (by decide) jw_391c0f56bd (jj_le rfl) ?_
  intro p e s m args below meth c A hargs hA C hex hmn
  refine jj_aload_n C dJ0_charAt_5068e_0 rfl ?_
  refine jq_callVs (rest := []) C (ct_J0_isLatin1_aae02_s3 hl D cA ak) [] [] rfl rfl (by decide) (by decide) (by decide) 35 (by decide) rfl jw_5ca960aa2e jw_b7ba7c03ae jw_c4fe6f1e08 jw_4ea6285965 jw_1aa7753999 jn_J0_isLatin1_aae02 rfl (jj_le rfl) (jj_le rfl) (jj_le rfl) (jj_le rfl) (jj_le rfl) dJ0_charAt_5068e_1 rfl (fun _ _ hX => hX.elim) (fun w1 r O_2 => ?_)
  obtain ⟨rfl, rfl⟩ := O_2
  refine jj_apd rfl ?_
  refine jj_if_eqF (tgt := 16) C dJ0_charAt_5068e_4 (by decide) (by decide) ?_
  refine jj_aload_n C dJ0_charAt_5068e_7 rfl ?_
  refine jj_sval (k := 35) C (by decide) jw_90a506b1c3 dJ0_charAt_5068e_8 ?_
  refine jj_iload_n C dJ0_charAt_5068e_11 rfl ?_
  refine jq_callS (rest := []) C (ct_J1_charAt_3b067_s15 hl D cA ak) [] [] rfl rfl (by decide) (by decide) (by decide) jw_7e2463d496 jw_530d7ac64c jw_2a3a2ce6ce jw_6996a9eac3 jn_J1_charAt_3b067 rfl (jj_le rfl) (jj_le rfl) (jj_le rfl) (jj_le rfl) (jj_le rfl) dJ0_charAt_5068e_12 rfl (fun _ _ hX => hX.elim) (fun w1 r O_4 => ?_)
  obtain ⟨rfl, rfl⟩ := O_4
  refine jj_apd rfl ?_
  exact jj_zret C rfl ⟨rfl, rfl⟩ dJ0_charAt_5068e_15 (jj_le rfl) (jj_le rfl)

set_option maxHeartbeats 4000000 in
set_option maxRecDepth 100000 in
theorem ct_J3_checkIndex_8e157_s31 {l : Launch} (hl : l.stackTraces = false) (D : va_G) (cA : Nat → ClassId) (ak : (Nat → Nat) × (Nat → Nat)) (h0 : Nat) : jj_M l D cA ak yJ3_checkIndex_8e157 (.code yJ3_checkIndex_8e157 cJ3_checkIndex_8e157 3 (some .int)) 0 0 0 0 [] [.int 3, .int 7, .ref h0] (fun (w : va_W) (r : Option Value) => (w = [] ∧ r = some (.int 3))) jj_noX := by
  refine jj_start hl (by decide) jw_da9869a695 (jj_le rfl) ?_
  intro p e s m args below meth c A hargs hA C hex hmn
  refine jj_iload_n C dJ3_checkIndex_8e157_0 rfl ?_
  refine jj_if_ltF (tgt := 9) C dJ3_checkIndex_8e157_1 (by decide) (by decide) ?_
  refine jj_iload_n C dJ3_checkIndex_8e157_4 rfl ?_
  refine jj_iload_n C dJ3_checkIndex_8e157_5 rfl ?_
  refine jj_icmp_ltT (tgt := 16) C dJ3_checkIndex_8e157_6 (by decide) (by decide) ?_
  refine jj_iload_n C dJ3_checkIndex_8e157_16 rfl ?_
  exact jj_iret C ⟨rfl, rfl⟩ dJ3_checkIndex_8e157_17 (jj_le rfl) (jj_le rfl)

set_option maxHeartbeats 4000000 in
set_option maxRecDepth 100000 in
theorem ct_J3_checkIndex_8e157_s32 {l : Launch} (hl : l.stackTraces = false) (D : va_G) (cA : Nat → ClassId) (ak : (Nat → Nat) × (Nat → Nat)) : jj_M l D cA ak yJ3_checkIndex_8e157 (.code yJ3_checkIndex_8e157 cJ3_checkIndex_8e157 3 (some .int)) 0 0 0 0 [] [.int 3, .int 7, .null] (fun (w : va_W) (r : Option Value) => (w = [] ∧ r = some (.int 3))) jj_noX := by
  refine jj_start hl (by decide) jw_da9869a695 (jj_le rfl) ?_
  intro p e s m args below meth c A hargs hA C hex hmn
  refine jj_iload_n C dJ3_checkIndex_8e157_0 rfl ?_
  refine jj_if_ltF (tgt := 9) C dJ3_checkIndex_8e157_1 (by decide) (by decide) ?_
  refine jj_iload_n C dJ3_checkIndex_8e157_4 rfl ?_
  refine jj_iload_n C dJ3_checkIndex_8e157_5 rfl ?_
  refine jj_icmp_ltT (tgt := 16) C dJ3_checkIndex_8e157_6 (by decide) (by decide) ?_
  refine jj_iload_n C dJ3_checkIndex_8e157_16 rfl ?_
  exact jj_iret C ⟨rfl, rfl⟩ dJ3_checkIndex_8e157_17 (jj_le rfl) (jj_le rfl)

set_option maxHeartbeats 4000000 in
set_option maxRecDepth 100000 in
theorem ct_J0_checkIndex_df160_s16 {l : Launch} (hl : l.stackTraces = false) (D : va_G) (cA : Nat → ClassId) (ak : (Nat → Nat) × (Nat → Nat)) : jj_M l D cA ak yJ0_checkIndex_df160 (.code yJ0_checkIndex_df160 cJ0_checkIndex_df160 2 none) 1 22 0 0 [] [.int 3, .int 7] (fun (w : va_W) (r : Option Value) => (w = [] ∧ r = none)) jj_noX := by
  refine jj_start hl (by decide) jw_73f64df4e3 (jj_le rfl) ?_
  intro p e s m args below meth c A hargs hA C hex hmn
  refine jj_iload_n C dJ0_checkIndex_df160_0 rfl ?_
  refine jj_iload_n C dJ0_checkIndex_df160_1 rfl ?_
  refine jj_gfm C jw_040150fc39 dJ0_checkIndex_df160_2 (fun t_1 => ?_) ?_
  · refine jq_callS (rest := []) C (ct_J3_checkIndex_8e157_s31 hl D cA ak t_1) [] [] rfl rfl (by decide) (by decide) (by decide) jw_a7a8b385a1 jw_8d35bed6b0 jw_2c7dffdd00 jw_da9869a695 jn_J3_checkIndex_8e157 rfl (jj_le rfl) (jj_le rfl) (jj_le rfl) (jj_le rfl) (jj_le rfl) dJ0_checkIndex_df160_5 rfl (fun _ _ hX => hX.elim) (fun w1 r O_3 => ?_)
    obtain ⟨rfl, rfl⟩ := O_3
    refine jj_apd rfl ?_
    refine jj_pop C dJ0_checkIndex_df160_8 rfl ?_
    exact jj_vret C ⟨rfl, rfl⟩ dJ0_checkIndex_df160_9 (jj_le rfl) (jj_le rfl)
  · refine jq_callS (rest := []) C (ct_J3_checkIndex_8e157_s32 hl D cA ak) [] [] rfl rfl (by decide) (by decide) (by decide) jw_a7a8b385a1 jw_8d35bed6b0 jw_2c7dffdd00 jw_da9869a695 jn_J3_checkIndex_8e157 rfl (jj_le rfl) (jj_le rfl) (jj_le rfl) (jj_le rfl) (jj_le rfl) dJ0_checkIndex_df160_5 rfl (fun _ _ hX => hX.elim) (fun w1 r O_5 => ?_)
    obtain ⟨rfl, rfl⟩ := O_5
    refine jj_apd rfl ?_
    refine jj_pop C dJ0_checkIndex_df160_8 rfl ?_
    exact jj_vret C ⟨rfl, rfl⟩ dJ0_checkIndex_df160_9 (jj_le rfl) (jj_le rfl)

set_option maxHeartbeats 4000000 in
set_option maxRecDepth 100000 in
theorem ct_J1_charAt_3b067_s16 {l : Launch} (hl : l.stackTraces = false) (D : va_G) (cA : Nat → ClassId) (ak : (Nat → Nat) × (Nat → Nat)) : jj_M l D cA ak yJ1_charAt_3b067 (.code yJ1_charAt_3b067 cJ1_charAt_3b067 2 (some .char)) 2 43 0 0 [] [.ref (ak.2 35), .int 3] (fun (w : va_W) (r : Option Value) => (w = [] ∧ r = some (.int 105))) jj_noX := by
  refine jj_start hl (by decide) jw_6996a9eac3 (jj_le rfl) ?_
  intro p e s m args below meth c A hargs hA C hex hmn
  refine jj_iload_n C dJ1_charAt_3b067_0 rfl ?_
  refine jj_aload_n C dJ1_charAt_3b067_1 rfl ?_
  refine jj_slen (k := 35) (v := 7) C (by decide) (by decide) dJ1_charAt_3b067_2 ?_
  refine jq_callS (rest := []) C (ct_J0_checkIndex_df160_s16 hl D cA ak) [] [] rfl rfl (by decide) (by decide) (by decide) jw_763fabfbf2 jw_9aa540e9dd jw_4ea6285965 jw_73f64df4e3 jn_J0_checkIndex_df160 rfl (jj_le rfl) (jj_le rfl) (jj_le rfl) (jj_le rfl) (jj_le rfl) dJ1_charAt_3b067_3 rfl (fun _ _ hX => hX.elim) (fun w1 r O_2 => ?_)
  obtain ⟨rfl, rfl⟩ := O_2
  refine jj_apd rfl ?_
  refine jj_aload_n C dJ1_charAt_3b067_6 rfl ?_
  refine jj_iload_n C dJ1_charAt_3b067_7 rfl ?_
  refine jj_sbyt (k := 35) (v := 105) C (by decide) (vp_in_iff.mpr (by decide)) (by decide) dJ1_charAt_3b067_8 ?_
  refine jj_sipush (v := 255) C dJ1_charAt_3b067_9 (by decide) ?_
  refine jj_iand (v := 105) C dJ1_charAt_3b067_12 (by decide) ?_
  refine jj_i2c (v := 105) C dJ1_charAt_3b067_13 (by decide) ?_
  exact jj_zret C rfl ⟨rfl, rfl⟩ dJ1_charAt_3b067_14 (jj_le rfl) (jj_le rfl)

set_option maxHeartbeats 4000000 in
set_option maxRecDepth 100000 in
theorem ct_J0_charAt_5068e_s16 {l : Launch} (hl : l.stackTraces = false) (D : va_G) (cA : Nat → ClassId) (ak : (Nat → Nat) × (Nat → Nat)) : jj_M l D cA ak yJ0_charAt_5068e (.code yJ0_charAt_5068e cJ0_charAt_5068e 2 (some .char)) 3 64 0 0 [] [.ref (ak.1 35), .int 3] (fun (w : va_W) (r : Option Value) => (w = [] ∧ r = some (.int 105))) jj_noX := by
  refine jj_start hl (by decide) jw_391c0f56bd (jj_le rfl) ?_
  intro p e s m args below meth c A hargs hA C hex hmn
  refine jj_aload_n C dJ0_charAt_5068e_0 rfl ?_
  refine jq_callVs (rest := []) C (ct_J0_isLatin1_aae02_s3 hl D cA ak) [] [] rfl rfl (by decide) (by decide) (by decide) 35 (by decide) rfl jw_5ca960aa2e jw_b7ba7c03ae jw_c4fe6f1e08 jw_4ea6285965 jw_1aa7753999 jn_J0_isLatin1_aae02 rfl (jj_le rfl) (jj_le rfl) (jj_le rfl) (jj_le rfl) (jj_le rfl) dJ0_charAt_5068e_1 rfl (fun _ _ hX => hX.elim) (fun w1 r O_2 => ?_)
  obtain ⟨rfl, rfl⟩ := O_2
  refine jj_apd rfl ?_
  refine jj_if_eqF (tgt := 16) C dJ0_charAt_5068e_4 (by decide) (by decide) ?_
  refine jj_aload_n C dJ0_charAt_5068e_7 rfl ?_
  refine jj_sval (k := 35) C (by decide) jw_90a506b1c3 dJ0_charAt_5068e_8 ?_
  refine jj_iload_n C dJ0_charAt_5068e_11 rfl ?_
  refine jq_callS (rest := []) C (ct_J1_charAt_3b067_s16 hl D cA ak) [] [] rfl rfl (by decide) (by decide) (by decide) jw_7e2463d496 jw_530d7ac64c jw_2a3a2ce6ce jw_6996a9eac3 jn_J1_charAt_3b067 rfl (jj_le rfl) (jj_le rfl) (jj_le rfl) (jj_le rfl) (jj_le rfl) dJ0_charAt_5068e_12 rfl (fun _ _ hX => hX.elim) (fun w1 r O_4 => ?_)
  obtain ⟨rfl, rfl⟩ := O_4
  refine jj_apd rfl ?_
  exact jj_zret C rfl ⟨rfl, rfl⟩ dJ0_charAt_5068e_15 (jj_le rfl) (jj_le rfl)

set_option maxHeartbeats 4000000 in
set_option maxRecDepth 100000 in
theorem ct_J3_checkIndex_8e157_s33 {l : Launch} (hl : l.stackTraces = false) (D : va_G) (cA : Nat → ClassId) (ak : (Nat → Nat) × (Nat → Nat)) (h0 : Nat) : jj_M l D cA ak yJ3_checkIndex_8e157 (.code yJ3_checkIndex_8e157 cJ3_checkIndex_8e157 3 (some .int)) 0 0 0 0 [] [.int 4, .int 7, .ref h0] (fun (w : va_W) (r : Option Value) => (w = [] ∧ r = some (.int 4))) jj_noX := by
  refine jj_start hl (by decide) jw_da9869a695 (jj_le rfl) ?_
  intro p e s m args below meth c A hargs hA C hex hmn
  refine jj_iload_n C dJ3_checkIndex_8e157_0 rfl ?_
  refine jj_if_ltF (tgt := 9) C dJ3_checkIndex_8e157_1 (by decide) (by decide) ?_
  refine jj_iload_n C dJ3_checkIndex_8e157_4 rfl ?_
  refine jj_iload_n C dJ3_checkIndex_8e157_5 rfl ?_
  refine jj_icmp_ltT (tgt := 16) C dJ3_checkIndex_8e157_6 (by decide) (by decide) ?_
  refine jj_iload_n C dJ3_checkIndex_8e157_16 rfl ?_
  exact jj_iret C ⟨rfl, rfl⟩ dJ3_checkIndex_8e157_17 (jj_le rfl) (jj_le rfl)

set_option maxHeartbeats 4000000 in
set_option maxRecDepth 100000 in
theorem ct_J3_checkIndex_8e157_s34 {l : Launch} (hl : l.stackTraces = false) (D : va_G) (cA : Nat → ClassId) (ak : (Nat → Nat) × (Nat → Nat)) : jj_M l D cA ak yJ3_checkIndex_8e157 (.code yJ3_checkIndex_8e157 cJ3_checkIndex_8e157 3 (some .int)) 0 0 0 0 [] [.int 4, .int 7, .null] (fun (w : va_W) (r : Option Value) => (w = [] ∧ r = some (.int 4))) jj_noX := by
  refine jj_start hl (by decide) jw_da9869a695 (jj_le rfl) ?_
  intro p e s m args below meth c A hargs hA C hex hmn
  refine jj_iload_n C dJ3_checkIndex_8e157_0 rfl ?_
  refine jj_if_ltF (tgt := 9) C dJ3_checkIndex_8e157_1 (by decide) (by decide) ?_
  refine jj_iload_n C dJ3_checkIndex_8e157_4 rfl ?_
  refine jj_iload_n C dJ3_checkIndex_8e157_5 rfl ?_
  refine jj_icmp_ltT (tgt := 16) C dJ3_checkIndex_8e157_6 (by decide) (by decide) ?_
  refine jj_iload_n C dJ3_checkIndex_8e157_16 rfl ?_
  exact jj_iret C ⟨rfl, rfl⟩ dJ3_checkIndex_8e157_17 (jj_le rfl) (jj_le rfl)

set_option maxHeartbeats 4000000 in
set_option maxRecDepth 100000 in
theorem ct_J0_checkIndex_df160_s17 {l : Launch} (hl : l.stackTraces = false) (D : va_G) (cA : Nat → ClassId) (ak : (Nat → Nat) × (Nat → Nat)) : jj_M l D cA ak yJ0_checkIndex_df160 (.code yJ0_checkIndex_df160 cJ0_checkIndex_df160 2 none) 1 22 0 0 [] [.int 4, .int 7] (fun (w : va_W) (r : Option Value) => (w = [] ∧ r = none)) jj_noX := by
  refine jj_start hl (by decide) jw_73f64df4e3 (jj_le rfl) ?_
  intro p e s m args below meth c A hargs hA C hex hmn
  refine jj_iload_n C dJ0_checkIndex_df160_0 rfl ?_
  refine jj_iload_n C dJ0_checkIndex_df160_1 rfl ?_
  refine jj_gfm C jw_040150fc39 dJ0_checkIndex_df160_2 (fun t_1 => ?_) ?_
  · refine jq_callS (rest := []) C (ct_J3_checkIndex_8e157_s33 hl D cA ak t_1) [] [] rfl rfl (by decide) (by decide) (by decide) jw_a7a8b385a1 jw_8d35bed6b0 jw_2c7dffdd00 jw_da9869a695 jn_J3_checkIndex_8e157 rfl (jj_le rfl) (jj_le rfl) (jj_le rfl) (jj_le rfl) (jj_le rfl) dJ0_checkIndex_df160_5 rfl (fun _ _ hX => hX.elim) (fun w1 r O_3 => ?_)
    obtain ⟨rfl, rfl⟩ := O_3
    refine jj_apd rfl ?_
    refine jj_pop C dJ0_checkIndex_df160_8 rfl ?_
    exact jj_vret C ⟨rfl, rfl⟩ dJ0_checkIndex_df160_9 (jj_le rfl) (jj_le rfl)
  · refine jq_callS (rest := []) C (ct_J3_checkIndex_8e157_s34 hl D cA ak) [] [] rfl rfl (by decide) (by decide) (by decide) jw_a7a8b385a1 jw_8d35bed6b0 jw_2c7dffdd00 jw_da9869a695 jn_J3_checkIndex_8e157 rfl (jj_le rfl) (jj_le rfl) (jj_le rfl) (jj_le rfl) (jj_le rfl) dJ0_checkIndex_df160_5 rfl (fun _ _ hX => hX.elim) (fun w1 r O_5 => ?_)
    obtain ⟨rfl, rfl⟩ := O_5
    refine jj_apd rfl ?_
    refine jj_pop C dJ0_checkIndex_df160_8 rfl ?_
    exact jj_vret C ⟨rfl, rfl⟩ dJ0_checkIndex_df160_9 (jj_le rfl) (jj_le rfl)

set_option maxHeartbeats 4000000 in
set_option maxRecDepth 100000 in
theorem ct_J1_charAt_3b067_s17 {l : Launch} (hl : l.stackTraces = false) (D : va_G) (cA : Nat → ClassId) (ak : (Nat → Nat) × (Nat → Nat)) : jj_M l D cA ak yJ1_charAt_3b067 (.code yJ1_charAt_3b067 cJ1_charAt_3b067 2 (some .char)) 2 43 0 0 [] [.ref (ak.2 35), .int 4] (fun (w : va_W) (r : Option Value) => (w = [] ∧ r = some (.int 101))) jj_noX := by
  refine jj_start hl (by decide) jw_6996a9eac3 (jj_le rfl) ?_
  intro p e s m args below meth c A hargs hA C hex hmn
  refine jj_iload_n C dJ1_charAt_3b067_0 rfl ?_
  refine jj_aload_n C dJ1_charAt_3b067_1 rfl ?_
  refine jj_slen (k := 35) (v := 7) C (by decide) (by decide) dJ1_charAt_3b067_2 ?_
  refine jq_callS (rest := []) C (ct_J0_checkIndex_df160_s17 hl D cA ak) [] [] rfl rfl (by decide) (by decide) (by decide) jw_763fabfbf2 jw_9aa540e9dd jw_4ea6285965 jw_73f64df4e3 jn_J0_checkIndex_df160 rfl (jj_le rfl) (jj_le rfl) (jj_le rfl) (jj_le rfl) (jj_le rfl) dJ1_charAt_3b067_3 rfl (fun _ _ hX => hX.elim) (fun w1 r O_2 => ?_)
  obtain ⟨rfl, rfl⟩ := O_2
  refine jj_apd rfl ?_
  refine jj_aload_n C dJ1_charAt_3b067_6 rfl ?_
  refine jj_iload_n C dJ1_charAt_3b067_7 rfl ?_
  refine jj_sbyt (k := 35) (v := 101) C (by decide) (vp_in_iff.mpr (by decide)) (by decide) dJ1_charAt_3b067_8 ?_
  refine jj_sipush (v := 255) C dJ1_charAt_3b067_9 (by decide) ?_
  refine jj_iand (v := 101) C dJ1_charAt_3b067_12 (by decide) ?_
  refine jj_i2c (v := 101) C dJ1_charAt_3b067_13 (by decide) ?_
  exact jj_zret C rfl ⟨rfl, rfl⟩ dJ1_charAt_3b067_14 (jj_le rfl) (jj_le rfl)

set_option maxHeartbeats 4000000 in
set_option maxRecDepth 100000 in
theorem ct_J0_charAt_5068e_s17 {l : Launch} (hl : l.stackTraces = false) (D : va_G) (cA : Nat → ClassId) (ak : (Nat → Nat) × (Nat → Nat)) : jj_M l D cA ak yJ0_charAt_5068e (.code yJ0_charAt_5068e cJ0_charAt_5068e 2 (some .char)) 3 64 0 0 [] [.ref (ak.1 35), .int 4] (fun (w : va_W) (r : Option Value) => (w = [] ∧ r = some (.int 101))) jj_noX := by
  refine jj_start hl (by decide) jw_391c0f56bd (jj_le rfl) ?_
  intro p e s m args below meth c A hargs hA C hex hmn
  refine jj_aload_n C dJ0_charAt_5068e_0 rfl ?_
  refine jq_callVs (rest := []) C (ct_J0_isLatin1_aae02_s3 hl D cA ak) [] [] rfl rfl (by decide) (by decide) (by decide) 35 (by decide) rfl jw_5ca960aa2e jw_b7ba7c03ae jw_c4fe6f1e08 jw_4ea6285965 jw_1aa7753999 jn_J0_isLatin1_aae02 rfl (jj_le rfl) (jj_le rfl) (jj_le rfl) (jj_le rfl) (jj_le rfl) dJ0_charAt_5068e_1 rfl (fun _ _ hX => hX.elim) (fun w1 r O_2 => ?_)
  obtain ⟨rfl, rfl⟩ := O_2
  refine jj_apd rfl ?_
  refine jj_if_eqF (tgt := 16) C dJ0_charAt_5068e_4 (by decide) (by decide) ?_
  refine jj_aload_n C dJ0_charAt_5068e_7 rfl ?_
  refine jj_sval (k := 35) C (by decide) jw_90a506b1c3 dJ0_charAt_5068e_8 ?_
  refine jj_iload_n C dJ0_charAt_5068e_11 rfl ?_
  refine jq_callS (rest := []) C (ct_J1_charAt_3b067_s17 hl D cA ak) [] [] rfl rfl (by decide) (by decide) (by decide) jw_7e2463d496 jw_530d7ac64c jw_2a3a2ce6ce jw_6996a9eac3 jn_J1_charAt_3b067 rfl (jj_le rfl) (jj_le rfl) (jj_le rfl) (jj_le rfl) (jj_le rfl) dJ0_charAt_5068e_12 rfl (fun _ _ hX => hX.elim) (fun w1 r O_4 => ?_)
  obtain ⟨rfl, rfl⟩ := O_4
  refine jj_apd rfl ?_
  exact jj_zret C rfl ⟨rfl, rfl⟩ dJ0_charAt_5068e_15 (jj_le rfl) (jj_le rfl)

set_option maxHeartbeats 4000000 in
set_option maxRecDepth 100000 in
theorem ct_J3_checkIndex_8e157_s35 {l : Launch} (hl : l.stackTraces = false) (D : va_G) (cA : Nat → ClassId) (ak : (Nat → Nat) × (Nat → Nat)) (h0 : Nat) : jj_M l D cA ak yJ3_checkIndex_8e157 (.code yJ3_checkIndex_8e157 cJ3_checkIndex_8e157 3 (some .int)) 0 0 0 0 [] [.int 5, .int 7, .ref h0] (fun (w : va_W) (r : Option Value) => (w = [] ∧ r = some (.int 5))) jj_noX := by
  refine jj_start hl (by decide) jw_da9869a695 (jj_le rfl) ?_
  intro p e s m args below meth c A hargs hA C hex hmn
  refine jj_iload_n C dJ3_checkIndex_8e157_0 rfl ?_
  refine jj_if_ltF (tgt := 9) C dJ3_checkIndex_8e157_1 (by decide) (by decide) ?_
  refine jj_iload_n C dJ3_checkIndex_8e157_4 rfl ?_
  refine jj_iload_n C dJ3_checkIndex_8e157_5 rfl ?_
  refine jj_icmp_ltT (tgt := 16) C dJ3_checkIndex_8e157_6 (by decide) (by decide) ?_
  refine jj_iload_n C dJ3_checkIndex_8e157_16 rfl ?_
  exact jj_iret C ⟨rfl, rfl⟩ dJ3_checkIndex_8e157_17 (jj_le rfl) (jj_le rfl)

set_option maxHeartbeats 4000000 in
set_option maxRecDepth 100000 in
theorem ct_J3_checkIndex_8e157_s36 {l : Launch} (hl : l.stackTraces = false) (D : va_G) (cA : Nat → ClassId) (ak : (Nat → Nat) × (Nat → Nat)) : jj_M l D cA ak yJ3_checkIndex_8e157 (.code yJ3_checkIndex_8e157 cJ3_checkIndex_8e157 3 (some .int)) 0 0 0 0 [] [.int 5, .int 7, .null] (fun (w : va_W) (r : Option Value) => (w = [] ∧ r = some (.int 5))) jj_noX := by
  refine jj_start hl (by decide) jw_da9869a695 (jj_le rfl) ?_
  intro p e s m args below meth c A hargs hA C hex hmn
  refine jj_iload_n C dJ3_checkIndex_8e157_0 rfl ?_
  refine jj_if_ltF (tgt := 9) C dJ3_checkIndex_8e157_1 (by decide) (by decide) ?_
  refine jj_iload_n C dJ3_checkIndex_8e157_4 rfl ?_
  refine jj_iload_n C dJ3_checkIndex_8e157_5 rfl ?_
  refine jj_icmp_ltT (tgt := 16) C dJ3_checkIndex_8e157_6 (by decide) (by decide) ?_
  refine jj_iload_n C dJ3_checkIndex_8e157_16 rfl ?_
  exact jj_iret C ⟨rfl, rfl⟩ dJ3_checkIndex_8e157_17 (jj_le rfl) (jj_le rfl)

set_option maxHeartbeats 4000000 in
set_option maxRecDepth 100000 in
theorem ct_J0_checkIndex_df160_s18 {l : Launch} (hl : l.stackTraces = false) (D : va_G) (cA : Nat → ClassId) (ak : (Nat → Nat) × (Nat → Nat)) : jj_M l D cA ak yJ0_checkIndex_df160 (.code yJ0_checkIndex_df160 cJ0_checkIndex_df160 2 none) 1 22 0 0 [] [.int 5, .int 7] (fun (w : va_W) (r : Option Value) => (w = [] ∧ r = none)) jj_noX := by
  refine jj_start hl (by decide) jw_73f64df4e3 (jj_le rfl) ?_
  intro p e s m args below meth c A hargs hA C hex hmn
  refine jj_iload_n C dJ0_checkIndex_df160_0 rfl ?_
  refine jj_iload_n C dJ0_checkIndex_df160_1 rfl ?_
  refine jj_gfm C jw_040150fc39 dJ0_checkIndex_df160_2 (fun t_1 => ?_) ?_
  · refine jq_callS (rest := []) C (ct_J3_checkIndex_8e157_s35 hl D cA ak t_1) [] [] rfl rfl (by decide) (by decide) (by decide) jw_a7a8b385a1 jw_8d35bed6b0 jw_2c7dffdd00 jw_da9869a695 jn_J3_checkIndex_8e157 rfl (jj_le rfl) (jj_le rfl) (jj_le rfl) (jj_le rfl) (jj_le rfl) dJ0_checkIndex_df160_5 rfl (fun _ _ hX => hX.elim) (fun w1 r O_3 => ?_)
    obtain ⟨rfl, rfl⟩ := O_3
    refine jj_apd rfl ?_
    refine jj_pop C dJ0_checkIndex_df160_8 rfl ?_
    exact jj_vret C ⟨rfl, rfl⟩ dJ0_checkIndex_df160_9 (jj_le rfl) (jj_le rfl)
  · refine jq_callS (rest := []) C (ct_J3_checkIndex_8e157_s36 hl D cA ak) [] [] rfl rfl (by decide) (by decide) (by decide) jw_a7a8b385a1 jw_8d35bed6b0 jw_2c7dffdd00 jw_da9869a695 jn_J3_checkIndex_8e157 rfl (jj_le rfl) (jj_le rfl) (jj_le rfl) (jj_le rfl) (jj_le rfl) dJ0_checkIndex_df160_5 rfl (fun _ _ hX => hX.elim) (fun w1 r O_5 => ?_)
    obtain ⟨rfl, rfl⟩ := O_5
    refine jj_apd rfl ?_
    refine jj_pop C dJ0_checkIndex_df160_8 rfl ?_
    exact jj_vret C ⟨rfl, rfl⟩ dJ0_checkIndex_df160_9 (jj_le rfl) (jj_le rfl)

set_option maxHeartbeats 4000000 in
set_option maxRecDepth 100000 in
theorem ct_J1_charAt_3b067_s18 {l : Launch} (hl : l.stackTraces = false) (D : va_G) (cA : Nat → ClassId) (ak : (Nat → Nat) × (Nat → Nat)) : jj_M l D cA ak yJ1_charAt_3b067 (.code yJ1_charAt_3b067 cJ1_charAt_3b067 2 (some .char)) 2 43 0 0 [] [.ref (ak.2 35), .int 5] (fun (w : va_W) (r : Option Value) => (w = [] ∧ r = some (.int 115))) jj_noX := by
  refine jj_start hl (by decide) jw_6996a9eac3 (jj_le rfl) ?_
  intro p e s m args below meth c A hargs hA C hex hmn
  refine jj_iload_n C dJ1_charAt_3b067_0 rfl ?_
  refine jj_aload_n C dJ1_charAt_3b067_1 rfl ?_
  refine jj_slen (k := 35) (v := 7) C (by decide) (by decide) dJ1_charAt_3b067_2 ?_
  refine jq_callS (rest := []) C (ct_J0_checkIndex_df160_s18 hl D cA ak) [] [] rfl rfl (by decide) (by decide) (by decide) jw_763fabfbf2 jw_9aa540e9dd jw_4ea6285965 jw_73f64df4e3 jn_J0_checkIndex_df160 rfl (jj_le rfl) (jj_le rfl) (jj_le rfl) (jj_le rfl) (jj_le rfl) dJ1_charAt_3b067_3 rfl (fun _ _ hX => hX.elim) (fun w1 r O_2 => ?_)
  obtain ⟨rfl, rfl⟩ := O_2
  refine jj_apd rfl ?_
  refine jj_aload_n C dJ1_charAt_3b067_6 rfl ?_
  refine jj_iload_n C dJ1_charAt_3b067_7 rfl ?_
  refine jj_sbyt (k := 35) (v := 115) C (by decide) (vp_in_iff.mpr (by decide)) (by decide) dJ1_charAt_3b067_8 ?_
  refine jj_sipush (v := 255) C dJ1_charAt_3b067_9 (by decide) ?_
  refine jj_iand (v := 115) C dJ1_charAt_3b067_12 (by decide) ?_
  refine jj_i2c (v := 115) C dJ1_charAt_3b067_13 (by decide) ?_
  exact jj_zret C rfl ⟨rfl, rfl⟩ dJ1_charAt_3b067_14 (jj_le rfl) (jj_le rfl)

set_option maxHeartbeats 4000000 in
set_option maxRecDepth 100000 in
theorem ct_J0_charAt_5068e_s18 {l : Launch} (hl : l.stackTraces = false) (D : va_G) (cA : Nat → ClassId) (ak : (Nat → Nat) × (Nat → Nat)) : jj_M l D cA ak yJ0_charAt_5068e (.code yJ0_charAt_5068e cJ0_charAt_5068e 2 (some .char)) 3 64 0 0 [] [.ref (ak.1 35), .int 5] (fun (w : va_W) (r : Option Value) => (w = [] ∧ r = some (.int 115))) jj_noX := by
  refine jj_start hl (by decide) jw_391c0f56bd (jj_le rfl) ?_
  intro p e s m args below meth c A hargs hA C hex hmn
  refine jj_aload_n C dJ0_charAt_5068e_0 rfl ?_
  refine jq_callVs (rest := []) C (ct_J0_isLatin1_aae02_s3 hl D cA ak) [] [] rfl rfl (by decide) (by decide) (by decide) 35 (by decide) rfl jw_5ca960aa2e jw_b7ba7c03ae jw_c4fe6f1e08 jw_4ea6285965 jw_1aa7753999 jn_J0_isLatin1_aae02 rfl (jj_le rfl) (jj_le rfl) (jj_le rfl) (jj_le rfl) (jj_le rfl) dJ0_charAt_5068e_1 rfl (fun _ _ hX => hX.elim) (fun w1 r O_2 => ?_)
  obtain ⟨rfl, rfl⟩ := O_2
  refine jj_apd rfl ?_
  refine jj_if_eqF (tgt := 16) C dJ0_charAt_5068e_4 (by decide) (by decide) ?_
  refine jj_aload_n C dJ0_charAt_5068e_7 rfl ?_
  refine jj_sval (k := 35) C (by decide) jw_90a506b1c3 dJ0_charAt_5068e_8 ?_
  refine jj_iload_n C dJ0_charAt_5068e_11 rfl ?_
  refine jq_callS (rest := []) C (ct_J1_charAt_3b067_s18 hl D cA ak) [] [] rfl rfl (by decide) (by decide) (by decide) jw_7e2463d496 jw_530d7ac64c jw_2a3a2ce6ce jw_6996a9eac3 jn_J1_charAt_3b067 rfl (jj_le rfl) (jj_le rfl) (jj_le rfl) (jj_le rfl) (jj_le rfl) dJ0_charAt_5068e_12 rfl (fun _ _ hX => hX.elim) (fun w1 r O_4 => ?_)
  obtain ⟨rfl, rfl⟩ := O_4
  refine jj_apd rfl ?_
  exact jj_zret C rfl ⟨rfl, rfl⟩ dJ0_charAt_5068e_15 (jj_le rfl) (jj_le rfl)

set_option maxHeartbeats 4000000 in
set_option maxRecDepth 100000 in
theorem ct_J3_checkIndex_8e157_s37 {l : Launch} (hl : l.stackTraces = false) (D : va_G) (cA : Nat → ClassId) (ak : (Nat → Nat) × (Nat → Nat)) (h0 : Nat) : jj_M l D cA ak yJ3_checkIndex_8e157 (.code yJ3_checkIndex_8e157 cJ3_checkIndex_8e157 3 (some .int)) 0 0 0 0 [] [.int 6, .int 7, .ref h0] (fun (w : va_W) (r : Option Value) => (w = [] ∧ r = some (.int 6))) jj_noX := by
  refine jj_start hl (by decide) jw_da9869a695 (jj_le rfl) ?_
  intro p e s m args below meth c A hargs hA C hex hmn
  refine jj_iload_n C dJ3_checkIndex_8e157_0 rfl ?_
  refine jj_if_ltF (tgt := 9) C dJ3_checkIndex_8e157_1 (by decide) (by decide) ?_
  refine jj_iload_n C dJ3_checkIndex_8e157_4 rfl ?_
  refine jj_iload_n C dJ3_checkIndex_8e157_5 rfl ?_
  refine jj_icmp_ltT (tgt := 16) C dJ3_checkIndex_8e157_6 (by decide) (by decide) ?_
  refine jj_iload_n C dJ3_checkIndex_8e157_16 rfl ?_
  exact jj_iret C ⟨rfl, rfl⟩ dJ3_checkIndex_8e157_17 (jj_le rfl) (jj_le rfl)

set_option maxHeartbeats 4000000 in
set_option maxRecDepth 100000 in
theorem ct_J3_checkIndex_8e157_s38 {l : Launch} (hl : l.stackTraces = false) (D : va_G) (cA : Nat → ClassId) (ak : (Nat → Nat) × (Nat → Nat)) : jj_M l D cA ak yJ3_checkIndex_8e157 (.code yJ3_checkIndex_8e157 cJ3_checkIndex_8e157 3 (some .int)) 0 0 0 0 [] [.int 6, .int 7, .null] (fun (w : va_W) (r : Option Value) => (w = [] ∧ r = some (.int 6))) jj_noX := by
  refine jj_start hl (by decide) jw_da9869a695 (jj_le rfl) ?_
  intro p e s m args below meth c A hargs hA C hex hmn
  refine jj_iload_n C dJ3_checkIndex_8e157_0 rfl ?_
  refine jj_if_ltF (tgt := 9) C dJ3_checkIndex_8e157_1 (by decide) (by decide) ?_
  refine jj_iload_n C dJ3_checkIndex_8e157_4 rfl ?_
  refine jj_iload_n C dJ3_checkIndex_8e157_5 rfl ?_
  refine jj_icmp_ltT (tgt := 16) C dJ3_checkIndex_8e157_6 (by decide) (by decide) ?_
  refine jj_iload_n C dJ3_checkIndex_8e157_16 rfl ?_
  exact jj_iret C ⟨rfl, rfl⟩ dJ3_checkIndex_8e157_17 (jj_le rfl) (jj_le rfl)

set_option maxHeartbeats 4000000 in
set_option maxRecDepth 100000 in
theorem ct_J0_checkIndex_df160_s19 {l : Launch} (hl : l.stackTraces = false) (D : va_G) (cA : Nat → ClassId) (ak : (Nat → Nat) × (Nat → Nat)) : jj_M l D cA ak yJ0_checkIndex_df160 (.code yJ0_checkIndex_df160 cJ0_checkIndex_df160 2 none) 1 22 0 0 [] [.int 6, .int 7] (fun (w : va_W) (r : Option Value) => (w = [] ∧ r = none)) jj_noX := by
  refine jj_start hl (by decide) jw_73f64df4e3 (jj_le rfl) ?_
  intro p e s m args below meth c A hargs hA C hex hmn
  refine jj_iload_n C dJ0_checkIndex_df160_0 rfl ?_
  refine jj_iload_n C dJ0_checkIndex_df160_1 rfl ?_
  refine jj_gfm C jw_040150fc39 dJ0_checkIndex_df160_2 (fun t_1 => ?_) ?_
  · refine jq_callS (rest := []) C (ct_J3_checkIndex_8e157_s37 hl D cA ak t_1) [] [] rfl rfl (by decide) (by decide) (by decide) jw_a7a8b385a1 jw_8d35bed6b0 jw_2c7dffdd00 jw_da9869a695 jn_J3_checkIndex_8e157 rfl (jj_le rfl) (jj_le rfl) (jj_le rfl) (jj_le rfl) (jj_le rfl) dJ0_checkIndex_df160_5 rfl (fun _ _ hX => hX.elim) (fun w1 r O_3 => ?_)
    obtain ⟨rfl, rfl⟩ := O_3
    refine jj_apd rfl ?_
    refine jj_pop C dJ0_checkIndex_df160_8 rfl ?_
    exact jj_vret C ⟨rfl, rfl⟩ dJ0_checkIndex_df160_9 (jj_le rfl) (jj_le rfl)
  · refine jq_callS (rest := []) C (ct_J3_checkIndex_8e157_s38 hl D cA ak) [] [] rfl rfl (by decide) (by decide) (by decide) jw_a7a8b385a1 jw_8d35bed6b0 jw_2c7dffdd00 jw_da9869a695 jn_J3_checkIndex_8e157 rfl (jj_le rfl) (jj_le rfl) (jj_le rfl) (jj_le rfl) (jj_le rfl) dJ0_checkIndex_df160_5 rfl (fun _ _ hX => hX.elim) (fun w1 r O_5 => ?_)
    obtain ⟨rfl, rfl⟩ := O_5
    refine jj_apd rfl ?_
    refine jj_pop C dJ0_checkIndex_df160_8 rfl ?_
    exact jj_vret C ⟨rfl, rfl⟩ dJ0_checkIndex_df160_9 (jj_le rfl) (jj_le rfl)

set_option maxHeartbeats 4000000 in
set_option maxRecDepth 100000 in
theorem ct_J1_charAt_3b067_s19 {l : Launch} (hl : l.stackTraces = false) (D : va_G) (cA : Nat → ClassId) (ak : (Nat → Nat) × (Nat → Nat)) : jj_M l D cA ak yJ1_charAt_3b067 (.code yJ1_charAt_3b067 cJ1_charAt_3b067 2 (some .char)) 2 43 0 0 [] [.ref (ak.2 35), .int 6] (fun (w : va_W) (r : Option Value) => (w = [] ∧ r = some (.int 32))) jj_noX := by
  refine jj_start hl (by decide) jw_6996a9eac3 (jj_le rfl) ?_
  intro p e s m args below meth c A hargs hA C hex hmn
  refine jj_iload_n C dJ1_charAt_3b067_0 rfl ?_
  refine jj_aload_n C dJ1_charAt_3b067_1 rfl ?_
  refine jj_slen (k := 35) (v := 7) C (by decide) (by decide) dJ1_charAt_3b067_2 ?_
  refine jq_callS (rest := []) C (ct_J0_checkIndex_df160_s19 hl D cA ak) [] [] rfl rfl (by decide) (by decide) (by decide) jw_763fabfbf2 jw_9aa540e9dd jw_4ea6285965 jw_73f64df4e3 jn_J0_checkIndex_df160 rfl (jj_le rfl) (jj_le rfl) (jj_le rfl) (jj_le rfl) (jj_le rfl) dJ1_charAt_3b067_3 rfl (fun _ _ hX => hX.elim) (fun w1 r O_2 => ?_)
  obtain ⟨rfl, rfl⟩ := O_2
  refine jj_apd rfl ?_
  refine jj_aload_n C dJ1_charAt_3b067_6 rfl ?_
  refine jj_iload_n C dJ1_charAt_3b067_7 rfl ?_
  refine jj_sbyt (k := 35) (v := 32) C (by decide) (vp_in_iff.mpr (by decide)) (by decide) dJ1_charAt_3b067_8 ?_
  refine jj_sipush (v := 255) C dJ1_charAt_3b067_9 (by decide) ?_
  refine jj_iand (v := 32) C dJ1_charAt_3b067_12 (by decide) ?_
  refine jj_i2c (v := 32) C dJ1_charAt_3b067_13 (by decide) ?_
  exact jj_zret C rfl ⟨rfl, rfl⟩ dJ1_charAt_3b067_14 (jj_le rfl) (jj_le rfl)

set_option maxHeartbeats 4000000 in
set_option maxRecDepth 100000 in
theorem ct_J0_charAt_5068e_s19 {l : Launch} (hl : l.stackTraces = false) (D : va_G) (cA : Nat → ClassId) (ak : (Nat → Nat) × (Nat → Nat)) : jj_M l D cA ak yJ0_charAt_5068e (.code yJ0_charAt_5068e cJ0_charAt_5068e 2 (some .char)) 3 64 0 0 [] [.ref (ak.1 35), .int 6] (fun (w : va_W) (r : Option Value) => (w = [] ∧ r = some (.int 32))) jj_noX := by
  refine jj_start hl (by decide) jw_391c0f56bd (jj_le rfl) ?_
  intro p e s m args below meth c A hargs hA C hex hmn
  refine jj_aload_n C dJ0_charAt_5068e_0 rfl ?_
  refine jq_callVs (rest := []) C (ct_J0_isLatin1_aae02_s3 hl D cA ak) [] [] rfl rfl (by decide) (by decide) (by decide) 35 (by decide) rfl jw_5ca960aa2e jw_b7ba7c03ae jw_c4fe6f1e08 jw_4ea6285965 jw_1aa7753999 jn_J0_isLatin1_aae02 rfl (jj_le rfl) (jj_le rfl) (jj_le rfl) (jj_le rfl) (jj_le rfl) dJ0_charAt_5068e_1 rfl (fun _ _ hX => hX.elim) (fun w1 r O_2 => ?_)
  obtain ⟨rfl, rfl⟩ := O_2
  refine jj_apd rfl ?_
  refine jj_if_eqF (tgt := 16) C dJ0_charAt_5068e_4 (by decide) (by decide) ?_
  refine jj_aload_n C dJ0_charAt_5068e_7 rfl ?_
  refine jj_sval (k := 35) C (by decide) jw_90a506b1c3 dJ0_charAt_5068e_8 ?_
  refine jj_iload_n C dJ0_charAt_5068e_11 rfl ?_
  refine jq_callS (rest := []) C (ct_J1_charAt_3b067_s19 hl D cA ak) [] [] rfl rfl (by decide) (by decide) (by decide) jw_7e2463d496 jw_530d7ac64c jw_2a3a2ce6ce jw_6996a9eac3 jn_J1_charAt_3b067 rfl (jj_le rfl) (jj_le rfl) (jj_le rfl) (jj_le rfl) (jj_le rfl) dJ0_charAt_5068e_12 rfl (fun _ _ hX => hX.elim) (fun w1 r O_4 => ?_)
  obtain ⟨rfl, rfl⟩ := O_4
  refine jj_apd rfl ?_
  exact jj_zret C rfl ⟨rfl, rfl⟩ dJ0_charAt_5068e_15 (jj_le rfl) (jj_le rfl)

set_option maxHeartbeats 4000000 in
set_option maxRecDepth 100000 in
theorem rc_X11_heldIn_d9921d {l : Launch} (hl : l.stackTraces = false) (D : va_G) (cA : Nat → ClassId) (ak : (Nat → Nat) × (Nat → Nat)) {Kd : Nat → Nat} {h0 aw aa at0 ai af ap : Nat} (p1 : Nat) (p2 : Int64) (f : Nat → Int64) (hk0 : Kd h0 = 1) (hkw : Kd aw = 2) (hka : Kd aa = 3) (hkt : Kd at0 = 4) (hki : Kd ai = 5) (hkf : Kd af = 6) (hkp : Kd ap = 7) (lp1 : (0 : Int) ≤ (p1 : Int)) (up1 : (p1 : Int) ≤ 5) (hH : rl_h f) {pl0 : va_W} (hok : tt_ok rt_tk cA Kd pl0) (hm : rl_m pl0 h0 aw aa at0 ai af ap) (hC : tt_lc pl0 aw f) : jj_M l D cA ak yX11_heldIn (.code yX11_heldIn cX11_heldIn 8 (some .long)) 1 20 0 0 ([] ++ pl0) [.ref h0, .int (nI p1), .long p2] (tt_O (fun rx pl1 r => rx = [] ∧ tt_ok rt_tk cA Kd pl1 ∧ tt_fr Kd [] pl0 pl1 ∧ tt_fa Kd [] pl0 pl1 ∧ ((∃ v : Int64, r = some (.long v))))) (tt_OX (fun _ _ _ => False)) := by
  refine jj_start hl (by decide) jw_f6a1ea64f5 (jj_le rfl) ?_
  intro p e s m args below meth c A hargs hA C hex hmn
  have hfr := tt_fr.refl (K := Kd) (WS := []) pl0
  have hfa := tt_fa.refl (K := Kd) (WA := []) pl0
  obtain ⟨⟨g0a, g0b⟩, ⟨g1a, g1b⟩, ⟨g6a, g6b⟩, ⟨g7a, g7b⟩, ⟨g8a, g8b⟩⟩ := hH
  refine jj_lconst (v := 0) C dX11_heldIn_0 (by decide) ?_
  refine jj_lstore C dX11_heldIn_1 (by decide) rfl ?_
  refine jj_iconst (v := 0) C dX11_heldIn_3 (by decide) ?_
  refine jj_istore C dX11_heldIn_4 (by decide) rfl ?_
  have hL_1 : ∀ (N : Nat) (pl : va_W) (k_2 : Nat) (y_3 : Int64), True → tt_ok rt_tk cA Kd pl → tt_fr Kd [] pl0 pl → tt_fa Kd [] pl0 pl → rl_m pl h0 aw aa at0 ai af ap → tt_lc pl aw f → (0 : Int) ≤ (k_2 : Int) → (k_2 : Int) ≤ 40 → (2147483648 - (k_2 : Int) ≤ (N : Int)) → jj_J p l e (jj_rm 1 20 0 0) s m args below meth c 8 A (vx_MQ below (jj_q D A (tt_O (fun rx pl1 r => rx = [] ∧ tt_ok rt_tk cA Kd pl1 ∧ tt_fr Kd [] pl0 pl1 ∧ tt_fa Kd [] pl0 pl1 ∧ ((∃ v : Int64, r = some (.long v)))))) (jj_x D A (tt_OX (fun _ _ _ => False))) args s 0 0 A) (jj_X D A ([] ++ pl)) 0 0 6 [(6, .int (nI k_2)), (4, .long y_3), (0, .ref h0), (1, .int (nI p1)), (2, .long p2)] [] := by
    intro NL_1
    induction NL_1 with
    | zero => intro pl k_2 y_3 _ hok hfr hfa hm hC lk_2 uk_2 hNL_1; exfalso; omega
    | succ NL_1 ihL_1 =>
      intro pl k_2 y_3 _ hok hfr hfa hm hC lk_2 uk_2 hNL_1
      replace ihL_1 := fun pl k_2 y_3 h1 => ihL_1 pl k_2 y_3 trivial h1
      refine jj_iload C dX11_heldIn_6 rfl ?_
      refine jj_i2l C dX11_heldIn_8 rfl ?_
      refine jj_aload_n C dX11_heldIn_9 rfl ?_
      refine tt_getF C hok jk_12 0 (by decide) jw_34eaf3ba8b (t := (2, 2, 0)) hk0 (by decide) rfl rfl hm.1 dX11_heldIn_10 ?_
      refine jj_bipush (v := 7) C dX11_heldIn_13 (by decide) ?_
      refine rl_lald C hok (t := (1, (-9223372036854775808), 9223372036854775807)) hkw (by decide) rfl (k := 7) (v := (f 7)) (vp_in_iff.mpr (by decide)) hC (by decide) rfl dX11_heldIn_15 ?_
      refine jj_lcmp_ge (tgt := 80) C dX11_heldIn_16 dX11_heldIn_17 (by decide) (fun c_4 => ?_) (fun c_4 => ?_)
      · have z_c_4 := jc_leL (a := (f 7).toInt) (b := ((k_2 : Nat) : Int)) c_4 rfl (rl_tl (by omega))
        refine jj_lload C dX11_heldIn_80 rfl ?_
        exact jj_lret C ⟨[], pl, rfl, rfl, hok, hfr, hfa, ⟨y_3, rfl⟩⟩ dX11_heldIn_82 (jj_le rfl) (jj_le rfl)
      · have z_c_4 := jc_nleL (a := (f 7).toInt) (b := ((k_2 : Nat) : Int)) c_4 rfl (rl_tl (by omega))
        refine jj_iload C dX11_heldIn_20 rfl ?_
        refine tt_call0S (rest := []) C (rn_lotAt hl D cA ak k_2 (46 + 6 * k_2) (by omega)) jw_4c8c4b88e2 jw_0fa3e2bccb jw_f96c99f44d jw_d540d98a1c jn_X11_lotAt rfl (jj_le rfl) (jj_le rfl) (jj_le rfl) (jj_le rfl) (jj_le rfl) dX11_heldIn_22 rfl (fun w1 r hO => ?_)
        obtain ⟨-, rfl⟩ := hO
        refine jj_istore C dX11_heldIn_25 (by decide) rfl ?_
        refine jj_lload C dX11_heldIn_27 rfl ?_
        refine jj_aload_n C dX11_heldIn_29 rfl ?_
        refine tt_getF C hok jk_12 0 (by decide) jw_34eaf3ba8b (t := (2, 2, 0)) hk0 (by decide) rfl rfl hm.1 dX11_heldIn_30 ?_
        refine jj_iload C dX11_heldIn_33 rfl ?_
        refine jj_iconst (v := 0) C dX11_heldIn_35 (by decide) ?_
        refine jj_iadd (v := nI (46 + 6 * k_2)) C dX11_heldIn_36 (rl_addR (kn := 0) (by decide) (by omega)) ?_
        refine rl_lald C hok (t := (1, (-9223372036854775808), 9223372036854775807)) hkw (by decide) rfl (k := 46 + 6 * k_2) (v := (f (46 + 6 * k_2))) (vp_in_nI (by omega) (by decide)) hC (nI_clamp (by omega)) rfl dX11_heldIn_37 ?_
        refine jj_iload_n C dX11_heldIn_38 rfl ?_
        refine jj_i2l C dX11_heldIn_39 rfl ?_
        refine jj_lcmp_ne (tgt := 70) C dX11_heldIn_40 dX11_heldIn_41 (by decide) (fun c_5 => ?_) (fun c_5 => ?_)
        · have z_c_5 := jc_neqL (a := (f (46 + 6 * k_2)).toInt) (b := ((p1 : Nat) : Int)) c_5 rfl (rl_tl (by omega))
          refine jj_lconst (v := 0) C dX11_heldIn_70 (by decide) ?_
          obtain ⟨y_6, ey_6⟩ : ∃ z : Int64, y_3 + (0 : Int64) = z := ⟨_, rfl⟩
          refine jj_ladd (v := y_6) C dX11_heldIn_71 ey_6 ?_
          refine jj_lstore C dX11_heldIn_72 (by decide) rfl ?_
          refine jj_iinc (v := nI (1 + k_2)) C dX11_heldIn_74 rfl (rl_addR (kn := 1) (by decide) (by omega)) (by decide) rfl ?_
          refine jj_goto (tgt := 6) C dX11_heldIn_77 (by decide) ?_
          refine jj_loc [0, 1, 3, 4, 5] rfl ?_
          exact ihL_1 pl (1 + k_2) y_6 hok hfr hfa hm hC (by first | omega | decide | exact tt_lo _ | exact tt_hi _) (by first | omega | decide | exact tt_lo _ | exact tt_hi _) (by first | omega | decide | exact tt_lo _ | exact tt_hi _)
        · have z_c_5 := jc_eqL (a := (f (46 + 6 * k_2)).toInt) (b := ((p1 : Nat) : Int)) c_5 rfl (rl_tl (by omega))
          refine jj_aload_n C dX11_heldIn_44 rfl ?_
          refine tt_getF C hok jk_12 0 (by decide) jw_34eaf3ba8b (t := (2, 2, 0)) hk0 (by decide) rfl rfl hm.1 dX11_heldIn_45 ?_
          refine jj_iload C dX11_heldIn_48 rfl ?_
          refine jj_iconst (v := 1) C dX11_heldIn_50 (by decide) ?_
          refine jj_iadd (v := nI (47 + 6 * k_2)) C dX11_heldIn_51 (rl_addR (kn := 1) (by decide) (by omega)) ?_
          refine rl_lald C hok (t := (1, (-9223372036854775808), 9223372036854775807)) hkw (by decide) rfl (k := 47 + 6 * k_2) (v := (f (47 + 6 * k_2))) (vp_in_nI (by omega) (by decide)) hC (nI_clamp (by omega)) rfl dX11_heldIn_52 ?_
          refine jj_lload_n C dX11_heldIn_53 rfl ?_
          refine jj_lcmp_ne (tgt := 70) C dX11_heldIn_54 dX11_heldIn_55 (by decide) (fun c_7 => ?_) (fun c_7 => ?_)
          · have z_c_7 := jc_neqL (a := (f (47 + 6 * k_2)).toInt) (b := p2.toInt) c_7 rfl rfl
            refine jj_lconst (v := 0) C dX11_heldIn_70 (by decide) ?_
            obtain ⟨y_8, ey_8⟩ : ∃ z : Int64, y_3 + (0 : Int64) = z := ⟨_, rfl⟩
            refine jj_ladd (v := y_8) C dX11_heldIn_71 ey_8 ?_
            refine jj_lstore C dX11_heldIn_72 (by decide) rfl ?_
            refine jj_iinc (v := nI (1 + k_2)) C dX11_heldIn_74 rfl (rl_addR (kn := 1) (by decide) (by omega)) (by decide) rfl ?_
            refine jj_goto (tgt := 6) C dX11_heldIn_77 (by decide) ?_
            refine jj_loc [0, 1, 3, 4, 5] rfl ?_
            exact ihL_1 pl (1 + k_2) y_8 hok hfr hfa hm hC (by first | omega | decide | exact tt_lo _ | exact tt_hi _) (by first | omega | decide | exact tt_lo _ | exact tt_hi _) (by first | omega | decide | exact tt_lo _ | exact tt_hi _)
          · have z_c_7 := jc_eqL (a := (f (47 + 6 * k_2)).toInt) (b := p2.toInt) c_7 rfl rfl
            refine jj_aload_n C dX11_heldIn_58 rfl ?_
            refine tt_getF C hok jk_12 0 (by decide) jw_34eaf3ba8b (t := (2, 2, 0)) hk0 (by decide) rfl rfl hm.1 dX11_heldIn_59 ?_
            refine jj_iload C dX11_heldIn_62 rfl ?_
            refine jj_iconst (v := 2) C dX11_heldIn_64 (by decide) ?_
            refine jj_iadd (v := nI (48 + 6 * k_2)) C dX11_heldIn_65 (rl_addR (kn := 2) (by decide) (by omega)) ?_
            refine rl_lald C hok (t := (1, (-9223372036854775808), 9223372036854775807)) hkw (by decide) rfl (k := 48 + 6 * k_2) (v := (f (48 + 6 * k_2))) (vp_in_nI (by omega) (by decide)) hC (nI_clamp (by omega)) rfl dX11_heldIn_66 ?_
            refine jj_goto (tgt := 71) C dX11_heldIn_67 (by decide) ?_
            obtain ⟨y_9, ey_9⟩ : ∃ z : Int64, y_3 + (f (48 + 6 * k_2)) = z := ⟨_, rfl⟩
            refine jj_ladd (v := y_9) C dX11_heldIn_71 ey_9 ?_
            refine jj_lstore C dX11_heldIn_72 (by decide) rfl ?_
            refine jj_iinc (v := nI (1 + k_2)) C dX11_heldIn_74 rfl (rl_addR (kn := 1) (by decide) (by omega)) (by decide) rfl ?_
            refine jj_goto (tgt := 6) C dX11_heldIn_77 (by decide) ?_
            refine jj_loc [0, 1, 3, 4, 5] rfl ?_
            exact ihL_1 pl (1 + k_2) y_9 hok hfr hfa hm hC (by first | omega | decide | exact tt_lo _ | exact tt_hi _) (by first | omega | decide | exact tt_lo _ | exact tt_hi _) (by first | omega | decide | exact tt_lo _ | exact tt_hi _)
  exact hL_1 _ pl0 0 (0 : Int64) trivial hok hfr hfa hm hC (by first | omega | decide | exact tt_lo _ | exact tt_hi _) (by first | omega | decide | exact tt_lo _ | exact tt_hi _) (Int.self_le_toNat _)

set_option maxHeartbeats 4000000 in
set_option maxRecDepth 100000 in
theorem rs_usedUp {l : Launch} (hl : l.stackTraces = false) (D : va_G) (cA : Nat → ClassId) (ak : (Nat → Nat) × (Nat → Nat)) {Kd : Nat → Nat} {h0 aw aa at0 ai af ap : Nat} (au : Nat) (fu : Nat → Int64) (j : Nat) (B : Int) (f : Nat → Int64) (hk0 : Kd h0 = 1) (hkw : Kd aw = 2) (hka : Kd aa = 3) (hkt : Kd at0 = 4) (hki : Kd ai = 5) (hkf : Kd af = 6) (hkp : Kd ap = 7) (hku : Kd au = 12) (hj : j < rnL f) (hI : rl_I B f) (hP : rl_P f) (hul : ∀ k : Nat, k < rnS f → (f (16 + 5 * k)).toInt = (f (47 + 6 * j)).toInt → (f (48 + 6 * j)).toInt ≤ (fu k).toInt) {pl0 : va_W} (hok : tt_ok rt_tk cA Kd pl0) (hm : rl_m pl0 h0 aw aa at0 ai af ap) (hC : tt_lc pl0 aw f) (hu22 : tt_at pl0 h0 22 (.ref au)) (huc : tt_lc pl0 au fu) : jj_M l D cA ak yX11_usedUp (.code yX11_usedUp cX11_usedUp 20 (some .long)) 3 64 0 0 ([] ++ pl0) [.ref h0, .int (nI (46 + 6 * j))] (tt_O (fun rx pl1 r => rx = [] ∧ tt_ok rt_tk cA Kd pl1 ∧ tt_fr Kd [] pl0 pl1 ∧ tt_fa Kd [11, 12] pl0 pl1 ∧ ((∃ fv : Nat → Int64, tt_lc pl1 au fv ∧ (∃ k : Nat, k < rnS f ∧ (f (16 + 5 * k)).toInt = (f (47 + 6 * j)).toInt ∧ fv = vp_updL fu k (fu k - f (48 + 6 * j))) ∧ ∃ v : Int64, r = some (.long v))))) (tt_OX (fun _ _ _ => False)) := by
  refine jj_start hl (by decide) jw_903a26b408 (jj_le rfl) ?_
  intro p e s m args below meth c A hargs hA C hex hmn
  have hfr := tt_fr.refl (K := Kd) (WS := []) pl0
  have hfa := tt_fa.refl (K := Kd) (WA := [11, 12]) pl0
  have hH := hI.1.1
  obtain ⟨⟨g0a, g0b⟩, ⟨g1a, g1b⟩, ⟨g6a, g6b⟩, ⟨g7a, g7b⟩, ⟨g8a, g8b⟩⟩ := hH
  have hj40 : j < 40 := by unfold rnL at hj; omega
  refine jj_aload_n C dX11_usedUp_0 rfl ?_
  refine jj_iload_n C dX11_usedUp_1 rfl ?_
  obtain ⟨qc, gs, hqc⟩ := tt_recv (cx := []) hok hk0 (by decide) rfl
  refine tt_callV (rest := []) C (rs_seriesOf hl D cA ak j B f hk0 hkw hka hkt hki hkf hkp (by unfold rnL; omega) hI hok hm hC) [] [] rfl rfl (by decide) (by decide) (by decide) qc hqc rfl rfl jw_d65a5bc022 jw_1dec1c43e7 jw_b10eba75a5 jw_f96c99f44d jw_a26e9314b3 jn_X11_seriesOf rfl (jj_le rfl) (jj_le rfl) (jj_le rfl) (jj_le rfl) (jj_le rfl) dX11_usedUp_2 rfl (fun _ _ _ hX => hX.elim) (fun rx pl_1 r O_5 => ?_)
  obtain ⟨rfl, hok_2, hr_3, ha_4, hR_6⟩ := O_5
  replace hu22 := hr_3.at hk0 (by decide) (by decide) hu22
  replace huc := ha_4.at hku (by decide) (by decide) huc
  replace hC := ha_4.at hkw (by decide) (by decide) hC
  replace hm := hm.fr hr_3 hk0 rfl
  replace hfr := hfr.trans (hr_3.sub (by decide))
  replace hfa := hfa.trans (ha_4.sub (by decide))
  obtain ⟨n_7, hn_7, qn_7, rfl⟩ := hR_6
  have hhn_7 : (n_7 : Int) < (f 6).toInt := by unfold rnS at hn_7; omega
  refine jj_istore_n C dX11_usedUp_5 (by decide) rfl ?_
  refine jj_iload_n C dX11_usedUp_6 rfl ?_
  refine jj_bipush (v := 16) C dX11_usedUp_7 (by decide) ?_
  obtain ⟨x_8, ex_8, vx_8⟩ := tt_isub (x := (nI (16 + 5 * n_7))) (y := (16 : Int32)) (a := ((16 + 5 * n_7 : Nat) : Int)) (rl_ti (by omega)) (b := 16) (by decide) (by omega) (by omega)
  refine jj_isub (v := x_8) C dX11_usedUp_9 ex_8 ?_
  refine jj_iconst (v := 5) C dX11_usedUp_10 (by decide) ?_
  refine jj_idiv (v := nI n_7) C dX11_usedUp_11 (by decide) (rl_div5 (by omega) (by omega)) ?_
  refine jj_istore_n C dX11_usedUp_12 (by decide) rfl ?_
  refine jj_aload_n C dX11_usedUp_13 rfl ?_
  refine tt_getF C hok_2 jk_12 0 (by decide) jw_34eaf3ba8b (t := (2, 2, 0)) hk0 (by decide) rfl rfl hm.1 dX11_usedUp_14 ?_
  refine jj_iload_n C dX11_usedUp_17 rfl ?_
  refine jj_iconst (v := 2) C dX11_usedUp_18 (by decide) ?_
  refine jj_iadd (v := nI (48 + 6 * j)) C dX11_usedUp_19 (rl_addR (kn := 2) (by decide) (by omega)) ?_
  refine rl_lald C hok_2 (t := (1, (-9223372036854775808), 9223372036854775807)) hkw (by decide) rfl (k := 48 + 6 * j) (v := (f (48 + 6 * j))) (vp_in_nI (by omega) (by decide)) hC (nI_clamp (by omega)) rfl dX11_usedUp_20 ?_
  refine jj_lstore C dX11_usedUp_21 (by decide) rfl ?_
  refine jj_aload_n C dX11_usedUp_23 rfl ?_
  refine tt_get C hok_2 jk_12 21 (by decide) jw_0571619de0 (t := (2, 11, 0)) hk0 (by decide) rfl rfl dX11_usedUp_24 (fun v_9 hv_9 hf_10 => ?_)
  obtain ⟨a_11, rfl, ka_11⟩ := tt_vr hv_9
  refine jj_iload_n C dX11_usedUp_27 rfl ?_
  refine tt_lald C hok_2 (t := (1, (-9223372036854775808), 9223372036854775807)) ka_11 (by decide) rfl (vp_in_nI (by omega) (by decide)) dX11_usedUp_28 (fun v_12 hv_12 => ?_)
  refine jj_aload_n C dX11_usedUp_29 rfl ?_
  refine tt_getF C hok_2 jk_12 0 (by decide) jw_34eaf3ba8b (t := (2, 2, 0)) hk0 (by decide) rfl rfl hm.1 dX11_usedUp_30 ?_
  refine jj_iload_n C dX11_usedUp_33 rfl ?_
  refine jj_iconst (v := 4) C dX11_usedUp_34 (by decide) ?_
  refine jj_iadd (v := nI (20 + 5 * n_7)) C dX11_usedUp_35 (rl_addR (kn := 4) (by decide) (by omega)) ?_
  refine rl_lald C hok_2 (t := (1, (-9223372036854775808), 9223372036854775807)) hkw (by decide) rfl (k := 20 + 5 * n_7) (v := (f (20 + 5 * n_7))) (vp_in_nI (by omega) (by decide)) hC (nI_clamp (by omega)) rfl dX11_usedUp_36 ?_
  refine jj_aload_n C dX11_usedUp_37 rfl ?_
  refine tt_getF C hok_2 jk_12 22 (by decide) jw_24c56b223b (t := (2, 12, 0)) hk0 (by decide) rfl rfl hu22 dX11_usedUp_38 ?_
  refine jj_iload_n C dX11_usedUp_41 rfl ?_
  refine rl_lald C hok_2 (t := (1, (-9223372036854775808), 9223372036854775807)) hku (by decide) rfl (k := n_7) (v := (fu n_7)) (vp_in_nI (by omega) (by decide)) huc (nI_clamp (by omega)) rfl dX11_usedUp_42 ?_
  refine tt_call0S (rest := [.long v_12]) C (ct_X11_worthAt_1 hl D cA ak (f (20 + 5 * n_7)) (fu n_7)) jw_2d6c35a821 jw_81064de76c jw_f96c99f44d jw_1259b4e227 jn_X11_worthAt rfl (jj_le rfl) (jj_le rfl) (jj_le rfl) (jj_le rfl) (jj_le rfl) dX11_usedUp_43 rfl (fun w1 r O_13 => ?_)
  obtain ⟨-, rfl⟩ := O_13
  refine jj_lsub C dX11_usedUp_46 rfl ?_
  refine jj_lstore C dX11_usedUp_47 (by decide) rfl ?_
  refine jj_lload C dX11_usedUp_49 rfl ?_
  refine jj_lconst (v := 0) C dX11_usedUp_51 (by decide) ?_
  refine jj_lcmp_le (tgt := 72) C dX11_usedUp_52 dX11_usedUp_53 (by decide) (fun c_14 => ?_) (fun c_14 => ?_)
  · have z_c_14 := jc_leL (a := (v_12 - ((((f (20 + 5 * n_7)) / 100000) * (fu n_7)) + ((((f (20 + 5 * n_7)) - (f (20 + 5 * n_7)) / 100000 * 100000) * (fu n_7)) / 100000))).toInt) (b := 0) c_14 rfl (by decide)
    refine jj_lconst (v := 0) C dX11_usedUp_72 (by decide) ?_
    refine jj_lstore C dX11_usedUp_73 (by decide) rfl ?_
    refine jj_aload_n C dX11_usedUp_75 rfl ?_
    refine tt_getF C hok_2 jk_12 21 (by decide) jw_0571619de0 (t := (2, 11, 0)) hk0 (by decide) rfl rfl hf_10 dX11_usedUp_76 ?_
    refine jj_iload_n C dX11_usedUp_79 rfl ?_
    refine tt_lald C hok_2 (t := (1, (-9223372036854775808), 9223372036854775807)) ka_11 (by decide) rfl (vp_in_nI (by omega) (by decide)) dX11_usedUp_80 (fun v_15 hv_15 => ?_)
    refine jj_lload C dX11_usedUp_81 rfl ?_
    refine jj_lsub C dX11_usedUp_83 rfl ?_
    refine jj_lload C dX11_usedUp_84 rfl ?_
    refine jj_lmul C dX11_usedUp_86 rfl ?_
    refine jj_aload_n C dX11_usedUp_87 rfl ?_
    refine tt_getF C hok_2 jk_12 22 (by decide) jw_24c56b223b (t := (2, 12, 0)) hk0 (by decide) rfl rfl hu22 dX11_usedUp_88 ?_
    refine jj_iload_n C dX11_usedUp_91 rfl ?_
    refine rl_lald C hok_2 (t := (1, (-9223372036854775808), 9223372036854775807)) hku (by decide) rfl (k := n_7) (v := (fu n_7)) (vp_in_nI (by omega) (by decide)) huc (nI_clamp (by omega)) rfl dX11_usedUp_92 ?_
    refine jj_ldiv C dX11_usedUp_93 (rl_nz (by have := hul n_7 hn_7 qn_7; have := hP.1 j hj; omega)) rfl ?_
    refine jj_lstore C dX11_usedUp_94 (by decide) rfl ?_
    refine jj_lload C dX11_usedUp_96 rfl ?_
    refine jj_lload C dX11_usedUp_98 rfl ?_
    refine jj_lmul C dX11_usedUp_100 rfl ?_
    refine jj_aload_n C dX11_usedUp_101 rfl ?_
    refine tt_getF C hok_2 jk_12 22 (by decide) jw_24c56b223b (t := (2, 12, 0)) hk0 (by decide) rfl rfl hu22 dX11_usedUp_102 ?_
    refine jj_iload_n C dX11_usedUp_105 rfl ?_
    refine rl_lald C hok_2 (t := (1, (-9223372036854775808), 9223372036854775807)) hku (by decide) rfl (k := n_7) (v := (fu n_7)) (vp_in_nI (by omega) (by decide)) huc (nI_clamp (by omega)) rfl dX11_usedUp_106 ?_
    refine jj_ldiv C dX11_usedUp_107 (rl_nz (by have := hul n_7 hn_7 qn_7; have := hP.1 j hj; omega)) rfl ?_
    refine jj_lstore C dX11_usedUp_108 (by decide) rfl ?_
    refine jj_aload_n C dX11_usedUp_110 rfl ?_
    refine tt_getF C hok_2 jk_12 21 (by decide) jw_0571619de0 (t := (2, 11, 0)) hk0 (by decide) rfl rfl hf_10 dX11_usedUp_111 ?_
    refine jj_iload_n C dX11_usedUp_114 rfl ?_
    refine tt_lald C hok_2 (t := (1, (-9223372036854775808), 9223372036854775807)) ka_11 (by decide) rfl (vp_in_nI (by omega) (by decide)) dX11_usedUp_115 (fun v_16 hv_16 => ?_)
    refine jj_ldc2 (v := 100000) C dX11_usedUp_116 jw_759d064724 ?_
    refine jj_lmul C dX11_usedUp_119 rfl ?_
    refine jj_aload_n C dX11_usedUp_120 rfl ?_
    refine tt_getF C hok_2 jk_12 22 (by decide) jw_24c56b223b (t := (2, 12, 0)) hk0 (by decide) rfl rfl hu22 dX11_usedUp_121 ?_
    refine jj_iload_n C dX11_usedUp_124 rfl ?_
    refine rl_lald C hok_2 (t := (1, (-9223372036854775808), 9223372036854775807)) hku (by decide) rfl (k := n_7) (v := (fu n_7)) (vp_in_nI (by omega) (by decide)) huc (nI_clamp (by omega)) rfl dX11_usedUp_125 ?_
    refine jj_ldiv C dX11_usedUp_126 (rl_nz (by have := hul n_7 hn_7 qn_7; have := hP.1 j hj; omega)) rfl ?_
    refine jj_lstore C dX11_usedUp_127 (by decide) rfl ?_
    refine jj_lload C dX11_usedUp_129 rfl ?_
    refine jj_aload_n C dX11_usedUp_131 rfl ?_
    refine tt_getF C hok_2 jk_12 0 (by decide) jw_34eaf3ba8b (t := (2, 2, 0)) hk0 (by decide) rfl rfl hm.1 dX11_usedUp_132 ?_
    refine jj_iload_n C dX11_usedUp_135 rfl ?_
    refine jj_iconst (v := 4) C dX11_usedUp_136 (by decide) ?_
    refine jj_iadd (v := nI (20 + 5 * n_7)) C dX11_usedUp_137 (rl_addR (kn := 4) (by decide) (by omega)) ?_
    refine rl_lald C hok_2 (t := (1, (-9223372036854775808), 9223372036854775807)) hkw (by decide) rfl (k := 20 + 5 * n_7) (v := (f (20 + 5 * n_7))) (vp_in_nI (by omega) (by decide)) hC (nI_clamp (by omega)) rfl dX11_usedUp_138 ?_
    refine tt_call0S (rest := []) C (ct_J9_min_f86c9_1 hl D cA ak ((v_16 * (100000 : Int64)) / (fu n_7)) (f (20 + 5 * n_7))) jw_43e83b8e67 jw_a0cddbe894 jw_a731c8553d jw_e0e7ffaaeb jn_J9_min_f86c9 rfl (jj_le rfl) (jj_le rfl) (jj_le rfl) (jj_le rfl) (jj_le rfl) dX11_usedUp_139 rfl (fun w1 r O_17 => ?_)
    rcases O_17 with ⟨c_18, -, rfl⟩ | ⟨c_19, -, rfl⟩
    · have z_c_18 := jc_ltL (a := (f (20 + 5 * n_7)).toInt) (b := ((v_16 * (100000 : Int64)) / (fu n_7)).toInt) c_18 rfl rfl
      refine jj_aload_n C dX11_usedUp_142 rfl ?_
      refine tt_getF C hok_2 jk_12 0 (by decide) jw_34eaf3ba8b (t := (2, 2, 0)) hk0 (by decide) rfl rfl hm.1 dX11_usedUp_143 ?_
      refine jj_iload_n C dX11_usedUp_146 rfl ?_
      refine jj_iconst (v := 3) C dX11_usedUp_147 (by decide) ?_
      refine jj_iadd (v := nI (49 + 6 * j)) C dX11_usedUp_148 (rl_addR (kn := 3) (by decide) (by omega)) ?_
      refine rl_lald C hok_2 (t := (1, (-9223372036854775808), 9223372036854775807)) hkw (by decide) rfl (k := 49 + 6 * j) (v := (f (49 + 6 * j))) (vp_in_nI (by omega) (by decide)) hC (nI_clamp (by omega)) rfl dX11_usedUp_149 ?_
      refine jj_lsub C dX11_usedUp_150 rfl ?_
      refine jj_lstore C dX11_usedUp_151 (by decide) rfl ?_
      refine jj_aload_n C dX11_usedUp_153 rfl ?_
      refine tt_getF C hok_2 jk_12 0 (by decide) jw_34eaf3ba8b (t := (2, 2, 0)) hk0 (by decide) rfl rfl hm.1 dX11_usedUp_154 ?_
      refine jj_iconst (v := 1) C dX11_usedUp_157 (by decide) ?_
      refine rl_lald C hok_2 (t := (1, (-9223372036854775808), 9223372036854775807)) hkw (by decide) rfl (k := 1) (v := (f 1)) (vp_in_iff.mpr (by decide)) hC (by decide) rfl dX11_usedUp_158 ?_
      refine jj_lconst (v := 0) C dX11_usedUp_159 (by decide) ?_
      refine jj_lcmp_eq (tgt := 171) C dX11_usedUp_160 dX11_usedUp_161 (by decide) (fun c_20 => ?_) (fun c_20 => ?_)
      · have z_c_20 := jc_eqL (a := (f 1).toInt) (b := 0) c_20 rfl (by decide)
        refine jj_lconst (v := 0) C dX11_usedUp_171 (by decide) ?_
        refine jj_goto (tgt := 195) C dX11_usedUp_172 (by decide) ?_
        refine jj_lstore C dX11_usedUp_195 (by decide) rfl ?_
        refine jj_aload_n C dX11_usedUp_197 rfl ?_
        refine tt_getF C hok_2 jk_12 21 (by decide) jw_0571619de0 (t := (2, 11, 0)) hk0 (by decide) rfl rfl hf_10 dX11_usedUp_198 ?_
        refine jj_iload_n C dX11_usedUp_201 rfl ?_
        refine jj_dup2 C dX11_usedUp_202 rfl rfl ?_
        refine tt_lald C hok_2 (t := (1, (-9223372036854775808), 9223372036854775807)) ka_11 (by decide) rfl (vp_in_nI (by omega) (by decide)) dX11_usedUp_203 (fun v_21 hv_21 => ?_)
        refine jj_lload C dX11_usedUp_204 rfl ?_
        refine jj_lload C dX11_usedUp_206 rfl ?_
        refine jj_ladd C dX11_usedUp_208 rfl ?_
        refine jj_lsub C dX11_usedUp_209 rfl ?_
        refine rl_last C hok_2 (t := (1, (-9223372036854775808), 9223372036854775807)) ka_11 (by decide) rfl (k := n_7) (vp_in_nI (by omega) (by decide)) (tt_ja _) (nI_clamp (by omega)) dX11_usedUp_210 (fun pl_22 hok_23 tr tl tw => ?_)
        replace hu22 := tr _ _ _ hu22
        replace hf_10 := tr _ _ _ hf_10
        replace hm := hm.arr tr
        replace hfr := hfr.arr tr
        replace huc := tl _ _ (tt_ne hku ka_11 (by decide)) huc
        replace hC := tl _ _ (tt_ne hkw ka_11 (by decide)) hC
        replace hfa := hfa.wr ka_11 tl (by decide)
        refine jj_aload_n C dX11_usedUp_211 rfl ?_
        refine tt_getF C hok_23 jk_12 22 (by decide) jw_24c56b223b (t := (2, 12, 0)) hk0 (by decide) rfl rfl hu22 dX11_usedUp_212 ?_
        refine jj_iload_n C dX11_usedUp_215 rfl ?_
        refine jj_dup2 C dX11_usedUp_216 rfl rfl ?_
        refine rl_lald C hok_23 (t := (1, (-9223372036854775808), 9223372036854775807)) hku (by decide) rfl (k := n_7) (v := (fu n_7)) (vp_in_nI (by omega) (by decide)) huc (nI_clamp (by omega)) rfl dX11_usedUp_217 ?_
        refine jj_lload C dX11_usedUp_218 rfl ?_
        refine jj_lsub C dX11_usedUp_220 rfl ?_
        refine rl_last C hok_23 (t := (1, (-9223372036854775808), 9223372036854775807)) hku (by decide) rfl (k := n_7) (vp_in_nI (by omega) (by decide)) (tt_ja _) (nI_clamp (by omega)) dX11_usedUp_221 (fun pl_24 hok_25 tr tl tw => ?_)
        replace hu22 := tr _ _ _ hu22
        replace hf_10 := tr _ _ _ hf_10
        replace hm := hm.arr tr
        replace hfr := hfr.arr tr
        replace huc := tw _ huc
        replace hC := tl _ _ (tt_ne hkw hku (by decide)) hC
        replace hfa := hfa.wr hku tl (by decide)
        refine jj_lload C dX11_usedUp_222 rfl ?_
        refine jj_lload C dX11_usedUp_224 rfl ?_
        refine jj_aload_n C dX11_usedUp_226 rfl ?_
        refine tt_getF C hok_25 jk_12 0 (by decide) jw_34eaf3ba8b (t := (2, 2, 0)) hk0 (by decide) rfl rfl hm.1 dX11_usedUp_227 ?_
        refine jj_iload_n C dX11_usedUp_230 rfl ?_
        refine jj_iconst (v := 4) C dX11_usedUp_231 (by decide) ?_
        refine jj_iadd (v := nI (50 + 6 * j)) C dX11_usedUp_232 (rl_addR (kn := 4) (by decide) (by omega)) ?_
        refine rl_lald C hok_25 (t := (1, (-9223372036854775808), 9223372036854775807)) hkw (by decide) rfl (k := 50 + 6 * j) (v := (f (50 + 6 * j))) (vp_in_nI (by omega) (by decide)) hC (nI_clamp (by omega)) rfl dX11_usedUp_233 ?_
        refine tt_call0S (rest := [.long (((v_15 - (0 : Int64)) * (f (48 + 6 * j))) / (fu n_7))]) C (ct_J9_min_f86c9_1 hl D cA ak (((0 : Int64) * (f (48 + 6 * j))) / (fu n_7)) (f (50 + 6 * j))) jw_43e83b8e67 jw_a0cddbe894 jw_a731c8553d jw_e0e7ffaaeb jn_J9_min_f86c9 rfl (jj_le rfl) (jj_le rfl) (jj_le rfl) (jj_le rfl) (jj_le rfl) dX11_usedUp_234 rfl (fun w1 r O_26 => ?_)
        rcases O_26 with ⟨c_27, -, rfl⟩ | ⟨c_28, -, rfl⟩
        · have z_c_27 := jc_ltL (a := (f (50 + 6 * j)).toInt) (b := (((0 : Int64) * (f (48 + 6 * j))) / (fu n_7)).toInt) c_27 rfl rfl
          refine jj_ladd C dX11_usedUp_237 rfl ?_
          refine jj_lload C dX11_usedUp_238 rfl ?_
          refine jj_lsub C dX11_usedUp_240 rfl ?_
          exact jj_lret C ⟨[], pl_24, rfl, rfl, hok_25, hfr, hfa, ⟨_, huc, ⟨n_7, hn_7, qn_7, rfl⟩, (((((v_15 - (0 : Int64)) * (f (48 + 6 * j))) / (fu n_7)) + (f (50 + 6 * j))) - (0 : Int64)), rfl⟩⟩ dX11_usedUp_241 (jj_le rfl) (jj_le rfl)
        · have z_c_28 := jc_nltL (a := (f (50 + 6 * j)).toInt) (b := (((0 : Int64) * (f (48 + 6 * j))) / (fu n_7)).toInt) c_28 rfl rfl
          refine jj_ladd C dX11_usedUp_237 rfl ?_
          refine jj_lload C dX11_usedUp_238 rfl ?_
          refine jj_lsub C dX11_usedUp_240 rfl ?_
          exact jj_lret C ⟨[], pl_24, rfl, rfl, hok_25, hfr, hfa, ⟨_, huc, ⟨n_7, hn_7, qn_7, rfl⟩, (((((v_15 - (0 : Int64)) * (f (48 + 6 * j))) / (fu n_7)) + (((0 : Int64) * (f (48 + 6 * j))) / (fu n_7))) - (0 : Int64)), rfl⟩⟩ dX11_usedUp_241 (jj_le rfl) (jj_le rfl)
      · have z_c_20 := jc_neqL (a := (f 1).toInt) (b := 0) c_20 rfl (by decide)
        refine jj_lload C dX11_usedUp_164 rfl ?_
        refine jj_lconst (v := 0) C dX11_usedUp_166 (by decide) ?_
        refine jj_lcmp_gt (tgt := 175) C dX11_usedUp_167 dX11_usedUp_168 (by decide) (fun c_29 => ?_) (fun c_29 => ?_)
        · have z_c_29 := jc_ltL (a := 0) (b := ((f (20 + 5 * n_7)) - (f (49 + 6 * j))).toInt) c_29 (by decide) rfl
          refine jj_lload C dX11_usedUp_175 rfl ?_
          refine jj_lload C dX11_usedUp_177 rfl ?_
          refine jj_lmul C dX11_usedUp_179 rfl ?_
          refine jj_aload_n C dX11_usedUp_180 rfl ?_
          refine tt_getF C hok_2 jk_12 0 (by decide) jw_34eaf3ba8b (t := (2, 2, 0)) hk0 (by decide) rfl rfl hm.1 dX11_usedUp_181 ?_
          refine jj_iconst (v := 3) C dX11_usedUp_184 (by decide) ?_
          refine rl_lald C hok_2 (t := (1, (-9223372036854775808), 9223372036854775807)) hkw (by decide) rfl (k := 3) (v := (f 3)) (vp_in_iff.mpr (by decide)) hC (by decide) rfl dX11_usedUp_185 ?_
          refine jj_lmul C dX11_usedUp_186 rfl ?_
          refine jj_ldc2 (v := 100) C dX11_usedUp_187 jw_0cface3231 ?_
          refine jj_ldiv C dX11_usedUp_190 (by decide) rfl ?_
          refine jj_ldc2 (v := 100000) C dX11_usedUp_191 jw_759d064724 ?_
          refine jj_ldiv C dX11_usedUp_194 (by decide) rfl ?_
          refine jj_lstore C dX11_usedUp_195 (by decide) rfl ?_
          refine jj_aload_n C dX11_usedUp_197 rfl ?_
          refine tt_getF C hok_2 jk_12 21 (by decide) jw_0571619de0 (t := (2, 11, 0)) hk0 (by decide) rfl rfl hf_10 dX11_usedUp_198 ?_
          refine jj_iload_n C dX11_usedUp_201 rfl ?_
          refine jj_dup2 C dX11_usedUp_202 rfl rfl ?_
          refine tt_lald C hok_2 (t := (1, (-9223372036854775808), 9223372036854775807)) ka_11 (by decide) rfl (vp_in_nI (by omega) (by decide)) dX11_usedUp_203 (fun v_30 hv_30 => ?_)
          refine jj_lload C dX11_usedUp_204 rfl ?_
          refine jj_lload C dX11_usedUp_206 rfl ?_
          refine jj_ladd C dX11_usedUp_208 rfl ?_
          refine jj_lsub C dX11_usedUp_209 rfl ?_
          refine rl_last C hok_2 (t := (1, (-9223372036854775808), 9223372036854775807)) ka_11 (by decide) rfl (k := n_7) (vp_in_nI (by omega) (by decide)) (tt_ja _) (nI_clamp (by omega)) dX11_usedUp_210 (fun pl_31 hok_32 tr tl tw => ?_)
          replace hu22 := tr _ _ _ hu22
          replace hf_10 := tr _ _ _ hf_10
          replace hm := hm.arr tr
          replace hfr := hfr.arr tr
          replace huc := tl _ _ (tt_ne hku ka_11 (by decide)) huc
          replace hC := tl _ _ (tt_ne hkw ka_11 (by decide)) hC
          replace hfa := hfa.wr ka_11 tl (by decide)
          refine jj_aload_n C dX11_usedUp_211 rfl ?_
          refine tt_getF C hok_32 jk_12 22 (by decide) jw_24c56b223b (t := (2, 12, 0)) hk0 (by decide) rfl rfl hu22 dX11_usedUp_212 ?_
          refine jj_iload_n C dX11_usedUp_215 rfl ?_
          refine jj_dup2 C dX11_usedUp_216 rfl rfl ?_
          refine rl_lald C hok_32 (t := (1, (-9223372036854775808), 9223372036854775807)) hku (by decide) rfl (k := n_7) (v := (fu n_7)) (vp_in_nI (by omega) (by decide)) huc (nI_clamp (by omega)) rfl dX11_usedUp_217 ?_
          refine jj_lload C dX11_usedUp_218 rfl ?_
          refine jj_lsub C dX11_usedUp_220 rfl ?_
          refine rl_last C hok_32 (t := (1, (-9223372036854775808), 9223372036854775807)) hku (by decide) rfl (k := n_7) (vp_in_nI (by omega) (by decide)) (tt_ja _) (nI_clamp (by omega)) dX11_usedUp_221 (fun pl_33 hok_34 tr tl tw => ?_)
          replace hu22 := tr _ _ _ hu22
          replace hf_10 := tr _ _ _ hf_10
          replace hm := hm.arr tr
          replace hfr := hfr.arr tr
          replace huc := tw _ huc
          replace hC := tl _ _ (tt_ne hkw hku (by decide)) hC
          replace hfa := hfa.wr hku tl (by decide)
          refine jj_lload C dX11_usedUp_222 rfl ?_
          refine jj_lload C dX11_usedUp_224 rfl ?_
          refine jj_aload_n C dX11_usedUp_226 rfl ?_
          refine tt_getF C hok_34 jk_12 0 (by decide) jw_34eaf3ba8b (t := (2, 2, 0)) hk0 (by decide) rfl rfl hm.1 dX11_usedUp_227 ?_
          refine jj_iload_n C dX11_usedUp_230 rfl ?_
          refine jj_iconst (v := 4) C dX11_usedUp_231 (by decide) ?_
          refine jj_iadd (v := nI (50 + 6 * j)) C dX11_usedUp_232 (rl_addR (kn := 4) (by decide) (by omega)) ?_
          refine rl_lald C hok_34 (t := (1, (-9223372036854775808), 9223372036854775807)) hkw (by decide) rfl (k := 50 + 6 * j) (v := (f (50 + 6 * j))) (vp_in_nI (by omega) (by decide)) hC (nI_clamp (by omega)) rfl dX11_usedUp_233 ?_
          refine tt_call0S (rest := [.long (((v_15 - (0 : Int64)) * (f (48 + 6 * j))) / (fu n_7))]) C (ct_J9_min_f86c9_1 hl D cA ak (((0 : Int64) * (f (48 + 6 * j))) / (fu n_7)) (f (50 + 6 * j))) jw_43e83b8e67 jw_a0cddbe894 jw_a731c8553d jw_e0e7ffaaeb jn_J9_min_f86c9 rfl (jj_le rfl) (jj_le rfl) (jj_le rfl) (jj_le rfl) (jj_le rfl) dX11_usedUp_234 rfl (fun w1 r O_35 => ?_)
          rcases O_35 with ⟨c_36, -, rfl⟩ | ⟨c_37, -, rfl⟩
          · have z_c_36 := jc_ltL (a := (f (50 + 6 * j)).toInt) (b := (((0 : Int64) * (f (48 + 6 * j))) / (fu n_7)).toInt) c_36 rfl rfl
            refine jj_ladd C dX11_usedUp_237 rfl ?_
            refine jj_lload C dX11_usedUp_238 rfl ?_
            refine jj_lsub C dX11_usedUp_240 rfl ?_
            exact jj_lret C ⟨[], pl_33, rfl, rfl, hok_34, hfr, hfa, ⟨_, huc, ⟨n_7, hn_7, qn_7, rfl⟩, (((((v_15 - (0 : Int64)) * (f (48 + 6 * j))) / (fu n_7)) + (f (50 + 6 * j))) - (((((f (48 + 6 * j)) * ((f (20 + 5 * n_7)) - (f (49 + 6 * j)))) * (f 3)) / (100 : Int64)) / (100000 : Int64))), rfl⟩⟩ dX11_usedUp_241 (jj_le rfl) (jj_le rfl)
          · have z_c_37 := jc_nltL (a := (f (50 + 6 * j)).toInt) (b := (((0 : Int64) * (f (48 + 6 * j))) / (fu n_7)).toInt) c_37 rfl rfl
            refine jj_ladd C dX11_usedUp_237 rfl ?_
            refine jj_lload C dX11_usedUp_238 rfl ?_
            refine jj_lsub C dX11_usedUp_240 rfl ?_
            exact jj_lret C ⟨[], pl_33, rfl, rfl, hok_34, hfr, hfa, ⟨_, huc, ⟨n_7, hn_7, qn_7, rfl⟩, (((((v_15 - (0 : Int64)) * (f (48 + 6 * j))) / (fu n_7)) + (((0 : Int64) * (f (48 + 6 * j))) / (fu n_7))) - (((((f (48 + 6 * j)) * ((f (20 + 5 * n_7)) - (f (49 + 6 * j)))) * (f 3)) / (100 : Int64)) / (100000 : Int64))), rfl⟩⟩ dX11_usedUp_241 (jj_le rfl) (jj_le rfl)
        · have z_c_29 := jc_nltL (a := 0) (b := ((f (20 + 5 * n_7)) - (f (49 + 6 * j))).toInt) c_29 (by decide) rfl
          refine jj_lconst (v := 0) C dX11_usedUp_171 (by decide) ?_
          refine jj_goto (tgt := 195) C dX11_usedUp_172 (by decide) ?_
          refine jj_lstore C dX11_usedUp_195 (by decide) rfl ?_
          refine jj_aload_n C dX11_usedUp_197 rfl ?_
          refine tt_getF C hok_2 jk_12 21 (by decide) jw_0571619de0 (t := (2, 11, 0)) hk0 (by decide) rfl rfl hf_10 dX11_usedUp_198 ?_
          refine jj_iload_n C dX11_usedUp_201 rfl ?_
          refine jj_dup2 C dX11_usedUp_202 rfl rfl ?_
          refine tt_lald C hok_2 (t := (1, (-9223372036854775808), 9223372036854775807)) ka_11 (by decide) rfl (vp_in_nI (by omega) (by decide)) dX11_usedUp_203 (fun v_38 hv_38 => ?_)
          refine jj_lload C dX11_usedUp_204 rfl ?_
          refine jj_lload C dX11_usedUp_206 rfl ?_
          refine jj_ladd C dX11_usedUp_208 rfl ?_
          refine jj_lsub C dX11_usedUp_209 rfl ?_
          refine rl_last C hok_2 (t := (1, (-9223372036854775808), 9223372036854775807)) ka_11 (by decide) rfl (k := n_7) (vp_in_nI (by omega) (by decide)) (tt_ja _) (nI_clamp (by omega)) dX11_usedUp_210 (fun pl_39 hok_40 tr tl tw => ?_)
          replace hu22 := tr _ _ _ hu22
          replace hf_10 := tr _ _ _ hf_10
          replace hm := hm.arr tr
          replace hfr := hfr.arr tr
          replace huc := tl _ _ (tt_ne hku ka_11 (by decide)) huc
          replace hC := tl _ _ (tt_ne hkw ka_11 (by decide)) hC
          replace hfa := hfa.wr ka_11 tl (by decide)
          refine jj_aload_n C dX11_usedUp_211 rfl ?_
          refine tt_getF C hok_40 jk_12 22 (by decide) jw_24c56b223b (t := (2, 12, 0)) hk0 (by decide) rfl rfl hu22 dX11_usedUp_212 ?_
          refine jj_iload_n C dX11_usedUp_215 rfl ?_
          refine jj_dup2 C dX11_usedUp_216 rfl rfl ?_
          refine rl_lald C hok_40 (t := (1, (-9223372036854775808), 9223372036854775807)) hku (by decide) rfl (k := n_7) (v := (fu n_7)) (vp_in_nI (by omega) (by decide)) huc (nI_clamp (by omega)) rfl dX11_usedUp_217 ?_
          refine jj_lload C dX11_usedUp_218 rfl ?_
          refine jj_lsub C dX11_usedUp_220 rfl ?_
          refine rl_last C hok_40 (t := (1, (-9223372036854775808), 9223372036854775807)) hku (by decide) rfl (k := n_7) (vp_in_nI (by omega) (by decide)) (tt_ja _) (nI_clamp (by omega)) dX11_usedUp_221 (fun pl_41 hok_42 tr tl tw => ?_)
          replace hu22 := tr _ _ _ hu22
          replace hf_10 := tr _ _ _ hf_10
          replace hm := hm.arr tr
          replace hfr := hfr.arr tr
          replace huc := tw _ huc
          replace hC := tl _ _ (tt_ne hkw hku (by decide)) hC
          replace hfa := hfa.wr hku tl (by decide)
          refine jj_lload C dX11_usedUp_222 rfl ?_
          refine jj_lload C dX11_usedUp_224 rfl ?_
          refine jj_aload_n C dX11_usedUp_226 rfl ?_
          refine tt_getF C hok_42 jk_12 0 (by decide) jw_34eaf3ba8b (t := (2, 2, 0)) hk0 (by decide) rfl rfl hm.1 dX11_usedUp_227 ?_
          refine jj_iload_n C dX11_usedUp_230 rfl ?_
          refine jj_iconst (v := 4) C dX11_usedUp_231 (by decide) ?_
          refine jj_iadd (v := nI (50 + 6 * j)) C dX11_usedUp_232 (rl_addR (kn := 4) (by decide) (by omega)) ?_
          refine rl_lald C hok_42 (t := (1, (-9223372036854775808), 9223372036854775807)) hkw (by decide) rfl (k := 50 + 6 * j) (v := (f (50 + 6 * j))) (vp_in_nI (by omega) (by decide)) hC (nI_clamp (by omega)) rfl dX11_usedUp_233 ?_
          refine tt_call0S (rest := [.long (((v_15 - (0 : Int64)) * (f (48 + 6 * j))) / (fu n_7))]) C (ct_J9_min_f86c9_1 hl D cA ak (((0 : Int64) * (f (48 + 6 * j))) / (fu n_7)) (f (50 + 6 * j))) jw_43e83b8e67 jw_a0cddbe894 jw_a731c8553d jw_e0e7ffaaeb jn_J9_min_f86c9 rfl (jj_le rfl) (jj_le rfl) (jj_le rfl) (jj_le rfl) (jj_le rfl) dX11_usedUp_234 rfl (fun w1 r O_43 => ?_)
          rcases O_43 with ⟨c_44, -, rfl⟩ | ⟨c_45, -, rfl⟩
          · have z_c_44 := jc_ltL (a := (f (50 + 6 * j)).toInt) (b := (((0 : Int64) * (f (48 + 6 * j))) / (fu n_7)).toInt) c_44 rfl rfl
            refine jj_ladd C dX11_usedUp_237 rfl ?_
            refine jj_lload C dX11_usedUp_238 rfl ?_
            refine jj_lsub C dX11_usedUp_240 rfl ?_
            exact jj_lret C ⟨[], pl_41, rfl, rfl, hok_42, hfr, hfa, ⟨_, huc, ⟨n_7, hn_7, qn_7, rfl⟩, (((((v_15 - (0 : Int64)) * (f (48 + 6 * j))) / (fu n_7)) + (f (50 + 6 * j))) - (0 : Int64)), rfl⟩⟩ dX11_usedUp_241 (jj_le rfl) (jj_le rfl)
          · have z_c_45 := jc_nltL (a := (f (50 + 6 * j)).toInt) (b := (((0 : Int64) * (f (48 + 6 * j))) / (fu n_7)).toInt) c_45 rfl rfl
            refine jj_ladd C dX11_usedUp_237 rfl ?_
            refine jj_lload C dX11_usedUp_238 rfl ?_
            refine jj_lsub C dX11_usedUp_240 rfl ?_
            exact jj_lret C ⟨[], pl_41, rfl, rfl, hok_42, hfr, hfa, ⟨_, huc, ⟨n_7, hn_7, qn_7, rfl⟩, (((((v_15 - (0 : Int64)) * (f (48 + 6 * j))) / (fu n_7)) + (((0 : Int64) * (f (48 + 6 * j))) / (fu n_7))) - (0 : Int64)), rfl⟩⟩ dX11_usedUp_241 (jj_le rfl) (jj_le rfl)
    · have z_c_19 := jc_nltL (a := (f (20 + 5 * n_7)).toInt) (b := ((v_16 * (100000 : Int64)) / (fu n_7)).toInt) c_19 rfl rfl
      refine jj_aload_n C dX11_usedUp_142 rfl ?_
      refine tt_getF C hok_2 jk_12 0 (by decide) jw_34eaf3ba8b (t := (2, 2, 0)) hk0 (by decide) rfl rfl hm.1 dX11_usedUp_143 ?_
      refine jj_iload_n C dX11_usedUp_146 rfl ?_
      refine jj_iconst (v := 3) C dX11_usedUp_147 (by decide) ?_
      refine jj_iadd (v := nI (49 + 6 * j)) C dX11_usedUp_148 (rl_addR (kn := 3) (by decide) (by omega)) ?_
      refine rl_lald C hok_2 (t := (1, (-9223372036854775808), 9223372036854775807)) hkw (by decide) rfl (k := 49 + 6 * j) (v := (f (49 + 6 * j))) (vp_in_nI (by omega) (by decide)) hC (nI_clamp (by omega)) rfl dX11_usedUp_149 ?_
      refine jj_lsub C dX11_usedUp_150 rfl ?_
      refine jj_lstore C dX11_usedUp_151 (by decide) rfl ?_
      refine jj_aload_n C dX11_usedUp_153 rfl ?_
      refine tt_getF C hok_2 jk_12 0 (by decide) jw_34eaf3ba8b (t := (2, 2, 0)) hk0 (by decide) rfl rfl hm.1 dX11_usedUp_154 ?_
      refine jj_iconst (v := 1) C dX11_usedUp_157 (by decide) ?_
      refine rl_lald C hok_2 (t := (1, (-9223372036854775808), 9223372036854775807)) hkw (by decide) rfl (k := 1) (v := (f 1)) (vp_in_iff.mpr (by decide)) hC (by decide) rfl dX11_usedUp_158 ?_
      refine jj_lconst (v := 0) C dX11_usedUp_159 (by decide) ?_
      refine jj_lcmp_eq (tgt := 171) C dX11_usedUp_160 dX11_usedUp_161 (by decide) (fun c_46 => ?_) (fun c_46 => ?_)
      · have z_c_46 := jc_eqL (a := (f 1).toInt) (b := 0) c_46 rfl (by decide)
        refine jj_lconst (v := 0) C dX11_usedUp_171 (by decide) ?_
        refine jj_goto (tgt := 195) C dX11_usedUp_172 (by decide) ?_
        refine jj_lstore C dX11_usedUp_195 (by decide) rfl ?_
        refine jj_aload_n C dX11_usedUp_197 rfl ?_
        refine tt_getF C hok_2 jk_12 21 (by decide) jw_0571619de0 (t := (2, 11, 0)) hk0 (by decide) rfl rfl hf_10 dX11_usedUp_198 ?_
        refine jj_iload_n C dX11_usedUp_201 rfl ?_
        refine jj_dup2 C dX11_usedUp_202 rfl rfl ?_
        refine tt_lald C hok_2 (t := (1, (-9223372036854775808), 9223372036854775807)) ka_11 (by decide) rfl (vp_in_nI (by omega) (by decide)) dX11_usedUp_203 (fun v_47 hv_47 => ?_)
        refine jj_lload C dX11_usedUp_204 rfl ?_
        refine jj_lload C dX11_usedUp_206 rfl ?_
        refine jj_ladd C dX11_usedUp_208 rfl ?_
        refine jj_lsub C dX11_usedUp_209 rfl ?_
        refine rl_last C hok_2 (t := (1, (-9223372036854775808), 9223372036854775807)) ka_11 (by decide) rfl (k := n_7) (vp_in_nI (by omega) (by decide)) (tt_ja _) (nI_clamp (by omega)) dX11_usedUp_210 (fun pl_48 hok_49 tr tl tw => ?_)
        replace hu22 := tr _ _ _ hu22
        replace hf_10 := tr _ _ _ hf_10
        replace hm := hm.arr tr
        replace hfr := hfr.arr tr
        replace huc := tl _ _ (tt_ne hku ka_11 (by decide)) huc
        replace hC := tl _ _ (tt_ne hkw ka_11 (by decide)) hC
        replace hfa := hfa.wr ka_11 tl (by decide)
        refine jj_aload_n C dX11_usedUp_211 rfl ?_
        refine tt_getF C hok_49 jk_12 22 (by decide) jw_24c56b223b (t := (2, 12, 0)) hk0 (by decide) rfl rfl hu22 dX11_usedUp_212 ?_
        refine jj_iload_n C dX11_usedUp_215 rfl ?_
        refine jj_dup2 C dX11_usedUp_216 rfl rfl ?_
        refine rl_lald C hok_49 (t := (1, (-9223372036854775808), 9223372036854775807)) hku (by decide) rfl (k := n_7) (v := (fu n_7)) (vp_in_nI (by omega) (by decide)) huc (nI_clamp (by omega)) rfl dX11_usedUp_217 ?_
        refine jj_lload C dX11_usedUp_218 rfl ?_
        refine jj_lsub C dX11_usedUp_220 rfl ?_
        refine rl_last C hok_49 (t := (1, (-9223372036854775808), 9223372036854775807)) hku (by decide) rfl (k := n_7) (vp_in_nI (by omega) (by decide)) (tt_ja _) (nI_clamp (by omega)) dX11_usedUp_221 (fun pl_50 hok_51 tr tl tw => ?_)
        replace hu22 := tr _ _ _ hu22
        replace hf_10 := tr _ _ _ hf_10
        replace hm := hm.arr tr
        replace hfr := hfr.arr tr
        replace huc := tw _ huc
        replace hC := tl _ _ (tt_ne hkw hku (by decide)) hC
        replace hfa := hfa.wr hku tl (by decide)
        refine jj_lload C dX11_usedUp_222 rfl ?_
        refine jj_lload C dX11_usedUp_224 rfl ?_
        refine jj_aload_n C dX11_usedUp_226 rfl ?_
        refine tt_getF C hok_51 jk_12 0 (by decide) jw_34eaf3ba8b (t := (2, 2, 0)) hk0 (by decide) rfl rfl hm.1 dX11_usedUp_227 ?_
        refine jj_iload_n C dX11_usedUp_230 rfl ?_
        refine jj_iconst (v := 4) C dX11_usedUp_231 (by decide) ?_
        refine jj_iadd (v := nI (50 + 6 * j)) C dX11_usedUp_232 (rl_addR (kn := 4) (by decide) (by omega)) ?_
        refine rl_lald C hok_51 (t := (1, (-9223372036854775808), 9223372036854775807)) hkw (by decide) rfl (k := 50 + 6 * j) (v := (f (50 + 6 * j))) (vp_in_nI (by omega) (by decide)) hC (nI_clamp (by omega)) rfl dX11_usedUp_233 ?_
        refine tt_call0S (rest := [.long (((v_15 - (0 : Int64)) * (f (48 + 6 * j))) / (fu n_7))]) C (ct_J9_min_f86c9_1 hl D cA ak (((0 : Int64) * (f (48 + 6 * j))) / (fu n_7)) (f (50 + 6 * j))) jw_43e83b8e67 jw_a0cddbe894 jw_a731c8553d jw_e0e7ffaaeb jn_J9_min_f86c9 rfl (jj_le rfl) (jj_le rfl) (jj_le rfl) (jj_le rfl) (jj_le rfl) dX11_usedUp_234 rfl (fun w1 r O_52 => ?_)
        rcases O_52 with ⟨c_53, -, rfl⟩ | ⟨c_54, -, rfl⟩
        · have z_c_53 := jc_ltL (a := (f (50 + 6 * j)).toInt) (b := (((0 : Int64) * (f (48 + 6 * j))) / (fu n_7)).toInt) c_53 rfl rfl
          refine jj_ladd C dX11_usedUp_237 rfl ?_
          refine jj_lload C dX11_usedUp_238 rfl ?_
          refine jj_lsub C dX11_usedUp_240 rfl ?_
          exact jj_lret C ⟨[], pl_50, rfl, rfl, hok_51, hfr, hfa, ⟨_, huc, ⟨n_7, hn_7, qn_7, rfl⟩, (((((v_15 - (0 : Int64)) * (f (48 + 6 * j))) / (fu n_7)) + (f (50 + 6 * j))) - (0 : Int64)), rfl⟩⟩ dX11_usedUp_241 (jj_le rfl) (jj_le rfl)
        · have z_c_54 := jc_nltL (a := (f (50 + 6 * j)).toInt) (b := (((0 : Int64) * (f (48 + 6 * j))) / (fu n_7)).toInt) c_54 rfl rfl
          refine jj_ladd C dX11_usedUp_237 rfl ?_
          refine jj_lload C dX11_usedUp_238 rfl ?_
          refine jj_lsub C dX11_usedUp_240 rfl ?_
          exact jj_lret C ⟨[], pl_50, rfl, rfl, hok_51, hfr, hfa, ⟨_, huc, ⟨n_7, hn_7, qn_7, rfl⟩, (((((v_15 - (0 : Int64)) * (f (48 + 6 * j))) / (fu n_7)) + (((0 : Int64) * (f (48 + 6 * j))) / (fu n_7))) - (0 : Int64)), rfl⟩⟩ dX11_usedUp_241 (jj_le rfl) (jj_le rfl)
      · have z_c_46 := jc_neqL (a := (f 1).toInt) (b := 0) c_46 rfl (by decide)
        refine jj_lload C dX11_usedUp_164 rfl ?_
        refine jj_lconst (v := 0) C dX11_usedUp_166 (by decide) ?_
        refine jj_lcmp_gt (tgt := 175) C dX11_usedUp_167 dX11_usedUp_168 (by decide) (fun c_55 => ?_) (fun c_55 => ?_)
        · have z_c_55 := jc_ltL (a := 0) (b := (((v_16 * (100000 : Int64)) / (fu n_7)) - (f (49 + 6 * j))).toInt) c_55 (by decide) rfl
          refine jj_lload C dX11_usedUp_175 rfl ?_
          refine jj_lload C dX11_usedUp_177 rfl ?_
          refine jj_lmul C dX11_usedUp_179 rfl ?_
          refine jj_aload_n C dX11_usedUp_180 rfl ?_
          refine tt_getF C hok_2 jk_12 0 (by decide) jw_34eaf3ba8b (t := (2, 2, 0)) hk0 (by decide) rfl rfl hm.1 dX11_usedUp_181 ?_
          refine jj_iconst (v := 3) C dX11_usedUp_184 (by decide) ?_
          refine rl_lald C hok_2 (t := (1, (-9223372036854775808), 9223372036854775807)) hkw (by decide) rfl (k := 3) (v := (f 3)) (vp_in_iff.mpr (by decide)) hC (by decide) rfl dX11_usedUp_185 ?_
          refine jj_lmul C dX11_usedUp_186 rfl ?_
          refine jj_ldc2 (v := 100) C dX11_usedUp_187 jw_0cface3231 ?_
          refine jj_ldiv C dX11_usedUp_190 (by decide) rfl ?_
          refine jj_ldc2 (v := 100000) C dX11_usedUp_191 jw_759d064724 ?_
          refine jj_ldiv C dX11_usedUp_194 (by decide) rfl ?_
          refine jj_lstore C dX11_usedUp_195 (by decide) rfl ?_
          refine jj_aload_n C dX11_usedUp_197 rfl ?_
          refine tt_getF C hok_2 jk_12 21 (by decide) jw_0571619de0 (t := (2, 11, 0)) hk0 (by decide) rfl rfl hf_10 dX11_usedUp_198 ?_
          refine jj_iload_n C dX11_usedUp_201 rfl ?_
          refine jj_dup2 C dX11_usedUp_202 rfl rfl ?_
          refine tt_lald C hok_2 (t := (1, (-9223372036854775808), 9223372036854775807)) ka_11 (by decide) rfl (vp_in_nI (by omega) (by decide)) dX11_usedUp_203 (fun v_56 hv_56 => ?_)
          refine jj_lload C dX11_usedUp_204 rfl ?_
          refine jj_lload C dX11_usedUp_206 rfl ?_
          refine jj_ladd C dX11_usedUp_208 rfl ?_
          refine jj_lsub C dX11_usedUp_209 rfl ?_
          refine rl_last C hok_2 (t := (1, (-9223372036854775808), 9223372036854775807)) ka_11 (by decide) rfl (k := n_7) (vp_in_nI (by omega) (by decide)) (tt_ja _) (nI_clamp (by omega)) dX11_usedUp_210 (fun pl_57 hok_58 tr tl tw => ?_)
          replace hu22 := tr _ _ _ hu22
          replace hf_10 := tr _ _ _ hf_10
          replace hm := hm.arr tr
          replace hfr := hfr.arr tr
          replace huc := tl _ _ (tt_ne hku ka_11 (by decide)) huc
          replace hC := tl _ _ (tt_ne hkw ka_11 (by decide)) hC
          replace hfa := hfa.wr ka_11 tl (by decide)
          refine jj_aload_n C dX11_usedUp_211 rfl ?_
          refine tt_getF C hok_58 jk_12 22 (by decide) jw_24c56b223b (t := (2, 12, 0)) hk0 (by decide) rfl rfl hu22 dX11_usedUp_212 ?_
          refine jj_iload_n C dX11_usedUp_215 rfl ?_
          refine jj_dup2 C dX11_usedUp_216 rfl rfl ?_
          refine rl_lald C hok_58 (t := (1, (-9223372036854775808), 9223372036854775807)) hku (by decide) rfl (k := n_7) (v := (fu n_7)) (vp_in_nI (by omega) (by decide)) huc (nI_clamp (by omega)) rfl dX11_usedUp_217 ?_
          refine jj_lload C dX11_usedUp_218 rfl ?_
          refine jj_lsub C dX11_usedUp_220 rfl ?_
          refine rl_last C hok_58 (t := (1, (-9223372036854775808), 9223372036854775807)) hku (by decide) rfl (k := n_7) (vp_in_nI (by omega) (by decide)) (tt_ja _) (nI_clamp (by omega)) dX11_usedUp_221 (fun pl_59 hok_60 tr tl tw => ?_)
          replace hu22 := tr _ _ _ hu22
          replace hf_10 := tr _ _ _ hf_10
          replace hm := hm.arr tr
          replace hfr := hfr.arr tr
          replace huc := tw _ huc
          replace hC := tl _ _ (tt_ne hkw hku (by decide)) hC
          replace hfa := hfa.wr hku tl (by decide)
          refine jj_lload C dX11_usedUp_222 rfl ?_
          refine jj_lload C dX11_usedUp_224 rfl ?_
          refine jj_aload_n C dX11_usedUp_226 rfl ?_
          refine tt_getF C hok_60 jk_12 0 (by decide) jw_34eaf3ba8b (t := (2, 2, 0)) hk0 (by decide) rfl rfl hm.1 dX11_usedUp_227 ?_
          refine jj_iload_n C dX11_usedUp_230 rfl ?_
          refine jj_iconst (v := 4) C dX11_usedUp_231 (by decide) ?_
          refine jj_iadd (v := nI (50 + 6 * j)) C dX11_usedUp_232 (rl_addR (kn := 4) (by decide) (by omega)) ?_
          refine rl_lald C hok_60 (t := (1, (-9223372036854775808), 9223372036854775807)) hkw (by decide) rfl (k := 50 + 6 * j) (v := (f (50 + 6 * j))) (vp_in_nI (by omega) (by decide)) hC (nI_clamp (by omega)) rfl dX11_usedUp_233 ?_
          refine tt_call0S (rest := [.long (((v_15 - (0 : Int64)) * (f (48 + 6 * j))) / (fu n_7))]) C (ct_J9_min_f86c9_1 hl D cA ak (((0 : Int64) * (f (48 + 6 * j))) / (fu n_7)) (f (50 + 6 * j))) jw_43e83b8e67 jw_a0cddbe894 jw_a731c8553d jw_e0e7ffaaeb jn_J9_min_f86c9 rfl (jj_le rfl) (jj_le rfl) (jj_le rfl) (jj_le rfl) (jj_le rfl) dX11_usedUp_234 rfl (fun w1 r O_61 => ?_)
          rcases O_61 with ⟨c_62, -, rfl⟩ | ⟨c_63, -, rfl⟩
          · have z_c_62 := jc_ltL (a := (f (50 + 6 * j)).toInt) (b := (((0 : Int64) * (f (48 + 6 * j))) / (fu n_7)).toInt) c_62 rfl rfl
            refine jj_ladd C dX11_usedUp_237 rfl ?_
            refine jj_lload C dX11_usedUp_238 rfl ?_
            refine jj_lsub C dX11_usedUp_240 rfl ?_
            exact jj_lret C ⟨[], pl_59, rfl, rfl, hok_60, hfr, hfa, ⟨_, huc, ⟨n_7, hn_7, qn_7, rfl⟩, (((((v_15 - (0 : Int64)) * (f (48 + 6 * j))) / (fu n_7)) + (f (50 + 6 * j))) - (((((f (48 + 6 * j)) * (((v_16 * (100000 : Int64)) / (fu n_7)) - (f (49 + 6 * j)))) * (f 3)) / (100 : Int64)) / (100000 : Int64))), rfl⟩⟩ dX11_usedUp_241 (jj_le rfl) (jj_le rfl)
          · have z_c_63 := jc_nltL (a := (f (50 + 6 * j)).toInt) (b := (((0 : Int64) * (f (48 + 6 * j))) / (fu n_7)).toInt) c_63 rfl rfl
            refine jj_ladd C dX11_usedUp_237 rfl ?_
            refine jj_lload C dX11_usedUp_238 rfl ?_
            refine jj_lsub C dX11_usedUp_240 rfl ?_
            exact jj_lret C ⟨[], pl_59, rfl, rfl, hok_60, hfr, hfa, ⟨_, huc, ⟨n_7, hn_7, qn_7, rfl⟩, (((((v_15 - (0 : Int64)) * (f (48 + 6 * j))) / (fu n_7)) + (((0 : Int64) * (f (48 + 6 * j))) / (fu n_7))) - (((((f (48 + 6 * j)) * (((v_16 * (100000 : Int64)) / (fu n_7)) - (f (49 + 6 * j)))) * (f 3)) / (100 : Int64)) / (100000 : Int64))), rfl⟩⟩ dX11_usedUp_241 (jj_le rfl) (jj_le rfl)
        · have z_c_55 := jc_nltL (a := 0) (b := (((v_16 * (100000 : Int64)) / (fu n_7)) - (f (49 + 6 * j))).toInt) c_55 (by decide) rfl
          refine jj_lconst (v := 0) C dX11_usedUp_171 (by decide) ?_
          refine jj_goto (tgt := 195) C dX11_usedUp_172 (by decide) ?_
          refine jj_lstore C dX11_usedUp_195 (by decide) rfl ?_
          refine jj_aload_n C dX11_usedUp_197 rfl ?_
          refine tt_getF C hok_2 jk_12 21 (by decide) jw_0571619de0 (t := (2, 11, 0)) hk0 (by decide) rfl rfl hf_10 dX11_usedUp_198 ?_
          refine jj_iload_n C dX11_usedUp_201 rfl ?_
          refine jj_dup2 C dX11_usedUp_202 rfl rfl ?_
          refine tt_lald C hok_2 (t := (1, (-9223372036854775808), 9223372036854775807)) ka_11 (by decide) rfl (vp_in_nI (by omega) (by decide)) dX11_usedUp_203 (fun v_64 hv_64 => ?_)
          refine jj_lload C dX11_usedUp_204 rfl ?_
          refine jj_lload C dX11_usedUp_206 rfl ?_
          refine jj_ladd C dX11_usedUp_208 rfl ?_
          refine jj_lsub C dX11_usedUp_209 rfl ?_
          refine rl_last C hok_2 (t := (1, (-9223372036854775808), 9223372036854775807)) ka_11 (by decide) rfl (k := n_7) (vp_in_nI (by omega) (by decide)) (tt_ja _) (nI_clamp (by omega)) dX11_usedUp_210 (fun pl_65 hok_66 tr tl tw => ?_)
          replace hu22 := tr _ _ _ hu22
          replace hf_10 := tr _ _ _ hf_10
          replace hm := hm.arr tr
          replace hfr := hfr.arr tr
          replace huc := tl _ _ (tt_ne hku ka_11 (by decide)) huc
          replace hC := tl _ _ (tt_ne hkw ka_11 (by decide)) hC
          replace hfa := hfa.wr ka_11 tl (by decide)
          refine jj_aload_n C dX11_usedUp_211 rfl ?_
          refine tt_getF C hok_66 jk_12 22 (by decide) jw_24c56b223b (t := (2, 12, 0)) hk0 (by decide) rfl rfl hu22 dX11_usedUp_212 ?_
          refine jj_iload_n C dX11_usedUp_215 rfl ?_
          refine jj_dup2 C dX11_usedUp_216 rfl rfl ?_
          refine rl_lald C hok_66 (t := (1, (-9223372036854775808), 9223372036854775807)) hku (by decide) rfl (k := n_7) (v := (fu n_7)) (vp_in_nI (by omega) (by decide)) huc (nI_clamp (by omega)) rfl dX11_usedUp_217 ?_
          refine jj_lload C dX11_usedUp_218 rfl ?_
          refine jj_lsub C dX11_usedUp_220 rfl ?_
          refine rl_last C hok_66 (t := (1, (-9223372036854775808), 9223372036854775807)) hku (by decide) rfl (k := n_7) (vp_in_nI (by omega) (by decide)) (tt_ja _) (nI_clamp (by omega)) dX11_usedUp_221 (fun pl_67 hok_68 tr tl tw => ?_)
          replace hu22 := tr _ _ _ hu22
          replace hf_10 := tr _ _ _ hf_10
          replace hm := hm.arr tr
          replace hfr := hfr.arr tr
          replace huc := tw _ huc
          replace hC := tl _ _ (tt_ne hkw hku (by decide)) hC
          replace hfa := hfa.wr hku tl (by decide)
          refine jj_lload C dX11_usedUp_222 rfl ?_
          refine jj_lload C dX11_usedUp_224 rfl ?_
          refine jj_aload_n C dX11_usedUp_226 rfl ?_
          refine tt_getF C hok_68 jk_12 0 (by decide) jw_34eaf3ba8b (t := (2, 2, 0)) hk0 (by decide) rfl rfl hm.1 dX11_usedUp_227 ?_
          refine jj_iload_n C dX11_usedUp_230 rfl ?_
          refine jj_iconst (v := 4) C dX11_usedUp_231 (by decide) ?_
          refine jj_iadd (v := nI (50 + 6 * j)) C dX11_usedUp_232 (rl_addR (kn := 4) (by decide) (by omega)) ?_
          refine rl_lald C hok_68 (t := (1, (-9223372036854775808), 9223372036854775807)) hkw (by decide) rfl (k := 50 + 6 * j) (v := (f (50 + 6 * j))) (vp_in_nI (by omega) (by decide)) hC (nI_clamp (by omega)) rfl dX11_usedUp_233 ?_
          refine tt_call0S (rest := [.long (((v_15 - (0 : Int64)) * (f (48 + 6 * j))) / (fu n_7))]) C (ct_J9_min_f86c9_1 hl D cA ak (((0 : Int64) * (f (48 + 6 * j))) / (fu n_7)) (f (50 + 6 * j))) jw_43e83b8e67 jw_a0cddbe894 jw_a731c8553d jw_e0e7ffaaeb jn_J9_min_f86c9 rfl (jj_le rfl) (jj_le rfl) (jj_le rfl) (jj_le rfl) (jj_le rfl) dX11_usedUp_234 rfl (fun w1 r O_69 => ?_)
          rcases O_69 with ⟨c_70, -, rfl⟩ | ⟨c_71, -, rfl⟩
          · have z_c_70 := jc_ltL (a := (f (50 + 6 * j)).toInt) (b := (((0 : Int64) * (f (48 + 6 * j))) / (fu n_7)).toInt) c_70 rfl rfl
            refine jj_ladd C dX11_usedUp_237 rfl ?_
            refine jj_lload C dX11_usedUp_238 rfl ?_
            refine jj_lsub C dX11_usedUp_240 rfl ?_
            exact jj_lret C ⟨[], pl_67, rfl, rfl, hok_68, hfr, hfa, ⟨_, huc, ⟨n_7, hn_7, qn_7, rfl⟩, (((((v_15 - (0 : Int64)) * (f (48 + 6 * j))) / (fu n_7)) + (f (50 + 6 * j))) - (0 : Int64)), rfl⟩⟩ dX11_usedUp_241 (jj_le rfl) (jj_le rfl)
          · have z_c_71 := jc_nltL (a := (f (50 + 6 * j)).toInt) (b := (((0 : Int64) * (f (48 + 6 * j))) / (fu n_7)).toInt) c_71 rfl rfl
            refine jj_ladd C dX11_usedUp_237 rfl ?_
            refine jj_lload C dX11_usedUp_238 rfl ?_
            refine jj_lsub C dX11_usedUp_240 rfl ?_
            exact jj_lret C ⟨[], pl_67, rfl, rfl, hok_68, hfr, hfa, ⟨_, huc, ⟨n_7, hn_7, qn_7, rfl⟩, (((((v_15 - (0 : Int64)) * (f (48 + 6 * j))) / (fu n_7)) + (((0 : Int64) * (f (48 + 6 * j))) / (fu n_7))) - (0 : Int64)), rfl⟩⟩ dX11_usedUp_241 (jj_le rfl) (jj_le rfl)
  · have z_c_14 := jc_nleL (a := (v_12 - ((((f (20 + 5 * n_7)) / 100000) * (fu n_7)) + ((((f (20 + 5 * n_7)) - (f (20 + 5 * n_7)) / 100000 * 100000) * (fu n_7)) / 100000))).toInt) (b := 0) c_14 rfl (by decide)
    refine jj_lload C dX11_usedUp_56 rfl ?_
    refine jj_aload_n C dX11_usedUp_58 rfl ?_
    refine tt_getF C hok_2 jk_12 0 (by decide) jw_34eaf3ba8b (t := (2, 2, 0)) hk0 (by decide) rfl rfl hm.1 dX11_usedUp_59 ?_
    refine jj_iconst (v := 3) C dX11_usedUp_62 (by decide) ?_
    refine rl_lald C hok_2 (t := (1, (-9223372036854775808), 9223372036854775807)) hkw (by decide) rfl (k := 3) (v := (f 3)) (vp_in_iff.mpr (by decide)) hC (by decide) rfl dX11_usedUp_63 ?_
    refine jj_lmul C dX11_usedUp_64 rfl ?_
    refine jj_ldc2 (v := 100) C dX11_usedUp_65 jw_0cface3231 ?_
    refine jj_ldiv C dX11_usedUp_68 (by decide) rfl ?_
    refine jj_goto (tgt := 73) C dX11_usedUp_69 (by decide) ?_
    refine jj_lstore C dX11_usedUp_73 (by decide) rfl ?_
    refine jj_aload_n C dX11_usedUp_75 rfl ?_
    refine tt_getF C hok_2 jk_12 21 (by decide) jw_0571619de0 (t := (2, 11, 0)) hk0 (by decide) rfl rfl hf_10 dX11_usedUp_76 ?_
    refine jj_iload_n C dX11_usedUp_79 rfl ?_
    refine tt_lald C hok_2 (t := (1, (-9223372036854775808), 9223372036854775807)) ka_11 (by decide) rfl (vp_in_nI (by omega) (by decide)) dX11_usedUp_80 (fun v_72 hv_72 => ?_)
    refine jj_lload C dX11_usedUp_81 rfl ?_
    refine jj_lsub C dX11_usedUp_83 rfl ?_
    refine jj_lload C dX11_usedUp_84 rfl ?_
    refine jj_lmul C dX11_usedUp_86 rfl ?_
    refine jj_aload_n C dX11_usedUp_87 rfl ?_
    refine tt_getF C hok_2 jk_12 22 (by decide) jw_24c56b223b (t := (2, 12, 0)) hk0 (by decide) rfl rfl hu22 dX11_usedUp_88 ?_
    refine jj_iload_n C dX11_usedUp_91 rfl ?_
    refine rl_lald C hok_2 (t := (1, (-9223372036854775808), 9223372036854775807)) hku (by decide) rfl (k := n_7) (v := (fu n_7)) (vp_in_nI (by omega) (by decide)) huc (nI_clamp (by omega)) rfl dX11_usedUp_92 ?_
    refine jj_ldiv C dX11_usedUp_93 (rl_nz (by have := hul n_7 hn_7 qn_7; have := hP.1 j hj; omega)) rfl ?_
    refine jj_lstore C dX11_usedUp_94 (by decide) rfl ?_
    refine jj_lload C dX11_usedUp_96 rfl ?_
    refine jj_lload C dX11_usedUp_98 rfl ?_
    refine jj_lmul C dX11_usedUp_100 rfl ?_
    refine jj_aload_n C dX11_usedUp_101 rfl ?_
    refine tt_getF C hok_2 jk_12 22 (by decide) jw_24c56b223b (t := (2, 12, 0)) hk0 (by decide) rfl rfl hu22 dX11_usedUp_102 ?_
    refine jj_iload_n C dX11_usedUp_105 rfl ?_
    refine rl_lald C hok_2 (t := (1, (-9223372036854775808), 9223372036854775807)) hku (by decide) rfl (k := n_7) (v := (fu n_7)) (vp_in_nI (by omega) (by decide)) huc (nI_clamp (by omega)) rfl dX11_usedUp_106 ?_
    refine jj_ldiv C dX11_usedUp_107 (rl_nz (by have := hul n_7 hn_7 qn_7; have := hP.1 j hj; omega)) rfl ?_
    refine jj_lstore C dX11_usedUp_108 (by decide) rfl ?_
    refine jj_aload_n C dX11_usedUp_110 rfl ?_
    refine tt_getF C hok_2 jk_12 21 (by decide) jw_0571619de0 (t := (2, 11, 0)) hk0 (by decide) rfl rfl hf_10 dX11_usedUp_111 ?_
    refine jj_iload_n C dX11_usedUp_114 rfl ?_
    refine tt_lald C hok_2 (t := (1, (-9223372036854775808), 9223372036854775807)) ka_11 (by decide) rfl (vp_in_nI (by omega) (by decide)) dX11_usedUp_115 (fun v_73 hv_73 => ?_)
    refine jj_ldc2 (v := 100000) C dX11_usedUp_116 jw_759d064724 ?_
    refine jj_lmul C dX11_usedUp_119 rfl ?_
    refine jj_aload_n C dX11_usedUp_120 rfl ?_
    refine tt_getF C hok_2 jk_12 22 (by decide) jw_24c56b223b (t := (2, 12, 0)) hk0 (by decide) rfl rfl hu22 dX11_usedUp_121 ?_
    refine jj_iload_n C dX11_usedUp_124 rfl ?_
    refine rl_lald C hok_2 (t := (1, (-9223372036854775808), 9223372036854775807)) hku (by decide) rfl (k := n_7) (v := (fu n_7)) (vp_in_nI (by omega) (by decide)) huc (nI_clamp (by omega)) rfl dX11_usedUp_125 ?_
    refine jj_ldiv C dX11_usedUp_126 (rl_nz (by have := hul n_7 hn_7 qn_7; have := hP.1 j hj; omega)) rfl ?_
    refine jj_lstore C dX11_usedUp_127 (by decide) rfl ?_
    refine jj_lload C dX11_usedUp_129 rfl ?_
    refine jj_aload_n C dX11_usedUp_131 rfl ?_
    refine tt_getF C hok_2 jk_12 0 (by decide) jw_34eaf3ba8b (t := (2, 2, 0)) hk0 (by decide) rfl rfl hm.1 dX11_usedUp_132 ?_
    refine jj_iload_n C dX11_usedUp_135 rfl ?_
    refine jj_iconst (v := 4) C dX11_usedUp_136 (by decide) ?_
    refine jj_iadd (v := nI (20 + 5 * n_7)) C dX11_usedUp_137 (rl_addR (kn := 4) (by decide) (by omega)) ?_
    refine rl_lald C hok_2 (t := (1, (-9223372036854775808), 9223372036854775807)) hkw (by decide) rfl (k := 20 + 5 * n_7) (v := (f (20 + 5 * n_7))) (vp_in_nI (by omega) (by decide)) hC (nI_clamp (by omega)) rfl dX11_usedUp_138 ?_
    refine tt_call0S (rest := []) C (ct_J9_min_f86c9_1 hl D cA ak ((v_73 * (100000 : Int64)) / (fu n_7)) (f (20 + 5 * n_7))) jw_43e83b8e67 jw_a0cddbe894 jw_a731c8553d jw_e0e7ffaaeb jn_J9_min_f86c9 rfl (jj_le rfl) (jj_le rfl) (jj_le rfl) (jj_le rfl) (jj_le rfl) dX11_usedUp_139 rfl (fun w1 r O_74 => ?_)
    rcases O_74 with ⟨c_75, -, rfl⟩ | ⟨c_76, -, rfl⟩
    · have z_c_75 := jc_ltL (a := (f (20 + 5 * n_7)).toInt) (b := ((v_73 * (100000 : Int64)) / (fu n_7)).toInt) c_75 rfl rfl
      refine jj_aload_n C dX11_usedUp_142 rfl ?_
      refine tt_getF C hok_2 jk_12 0 (by decide) jw_34eaf3ba8b (t := (2, 2, 0)) hk0 (by decide) rfl rfl hm.1 dX11_usedUp_143 ?_
      refine jj_iload_n C dX11_usedUp_146 rfl ?_
      refine jj_iconst (v := 3) C dX11_usedUp_147 (by decide) ?_
      refine jj_iadd (v := nI (49 + 6 * j)) C dX11_usedUp_148 (rl_addR (kn := 3) (by decide) (by omega)) ?_
      refine rl_lald C hok_2 (t := (1, (-9223372036854775808), 9223372036854775807)) hkw (by decide) rfl (k := 49 + 6 * j) (v := (f (49 + 6 * j))) (vp_in_nI (by omega) (by decide)) hC (nI_clamp (by omega)) rfl dX11_usedUp_149 ?_
      refine jj_lsub C dX11_usedUp_150 rfl ?_
      refine jj_lstore C dX11_usedUp_151 (by decide) rfl ?_
      refine jj_aload_n C dX11_usedUp_153 rfl ?_
      refine tt_getF C hok_2 jk_12 0 (by decide) jw_34eaf3ba8b (t := (2, 2, 0)) hk0 (by decide) rfl rfl hm.1 dX11_usedUp_154 ?_
      refine jj_iconst (v := 1) C dX11_usedUp_157 (by decide) ?_
      refine rl_lald C hok_2 (t := (1, (-9223372036854775808), 9223372036854775807)) hkw (by decide) rfl (k := 1) (v := (f 1)) (vp_in_iff.mpr (by decide)) hC (by decide) rfl dX11_usedUp_158 ?_
      refine jj_lconst (v := 0) C dX11_usedUp_159 (by decide) ?_
      refine jj_lcmp_eq (tgt := 171) C dX11_usedUp_160 dX11_usedUp_161 (by decide) (fun c_77 => ?_) (fun c_77 => ?_)
      · have z_c_77 := jc_eqL (a := (f 1).toInt) (b := 0) c_77 rfl (by decide)
        refine jj_lconst (v := 0) C dX11_usedUp_171 (by decide) ?_
        refine jj_goto (tgt := 195) C dX11_usedUp_172 (by decide) ?_
        refine jj_lstore C dX11_usedUp_195 (by decide) rfl ?_
        refine jj_aload_n C dX11_usedUp_197 rfl ?_
        refine tt_getF C hok_2 jk_12 21 (by decide) jw_0571619de0 (t := (2, 11, 0)) hk0 (by decide) rfl rfl hf_10 dX11_usedUp_198 ?_
        refine jj_iload_n C dX11_usedUp_201 rfl ?_
        refine jj_dup2 C dX11_usedUp_202 rfl rfl ?_
        refine tt_lald C hok_2 (t := (1, (-9223372036854775808), 9223372036854775807)) ka_11 (by decide) rfl (vp_in_nI (by omega) (by decide)) dX11_usedUp_203 (fun v_78 hv_78 => ?_)
        refine jj_lload C dX11_usedUp_204 rfl ?_
        refine jj_lload C dX11_usedUp_206 rfl ?_
        refine jj_ladd C dX11_usedUp_208 rfl ?_
        refine jj_lsub C dX11_usedUp_209 rfl ?_
        refine rl_last C hok_2 (t := (1, (-9223372036854775808), 9223372036854775807)) ka_11 (by decide) rfl (k := n_7) (vp_in_nI (by omega) (by decide)) (tt_ja _) (nI_clamp (by omega)) dX11_usedUp_210 (fun pl_79 hok_80 tr tl tw => ?_)
        replace hu22 := tr _ _ _ hu22
        replace hf_10 := tr _ _ _ hf_10
        replace hm := hm.arr tr
        replace hfr := hfr.arr tr
        replace huc := tl _ _ (tt_ne hku ka_11 (by decide)) huc
        replace hC := tl _ _ (tt_ne hkw ka_11 (by decide)) hC
        replace hfa := hfa.wr ka_11 tl (by decide)
        refine jj_aload_n C dX11_usedUp_211 rfl ?_
        refine tt_getF C hok_80 jk_12 22 (by decide) jw_24c56b223b (t := (2, 12, 0)) hk0 (by decide) rfl rfl hu22 dX11_usedUp_212 ?_
        refine jj_iload_n C dX11_usedUp_215 rfl ?_
        refine jj_dup2 C dX11_usedUp_216 rfl rfl ?_
        refine rl_lald C hok_80 (t := (1, (-9223372036854775808), 9223372036854775807)) hku (by decide) rfl (k := n_7) (v := (fu n_7)) (vp_in_nI (by omega) (by decide)) huc (nI_clamp (by omega)) rfl dX11_usedUp_217 ?_
        refine jj_lload C dX11_usedUp_218 rfl ?_
        refine jj_lsub C dX11_usedUp_220 rfl ?_
        refine rl_last C hok_80 (t := (1, (-9223372036854775808), 9223372036854775807)) hku (by decide) rfl (k := n_7) (vp_in_nI (by omega) (by decide)) (tt_ja _) (nI_clamp (by omega)) dX11_usedUp_221 (fun pl_81 hok_82 tr tl tw => ?_)
        replace hu22 := tr _ _ _ hu22
        replace hf_10 := tr _ _ _ hf_10
        replace hm := hm.arr tr
        replace hfr := hfr.arr tr
        replace huc := tw _ huc
        replace hC := tl _ _ (tt_ne hkw hku (by decide)) hC
        replace hfa := hfa.wr hku tl (by decide)
        refine jj_lload C dX11_usedUp_222 rfl ?_
        refine jj_lload C dX11_usedUp_224 rfl ?_
        refine jj_aload_n C dX11_usedUp_226 rfl ?_
        refine tt_getF C hok_82 jk_12 0 (by decide) jw_34eaf3ba8b (t := (2, 2, 0)) hk0 (by decide) rfl rfl hm.1 dX11_usedUp_227 ?_
        refine jj_iload_n C dX11_usedUp_230 rfl ?_
        refine jj_iconst (v := 4) C dX11_usedUp_231 (by decide) ?_
        refine jj_iadd (v := nI (50 + 6 * j)) C dX11_usedUp_232 (rl_addR (kn := 4) (by decide) (by omega)) ?_
        refine rl_lald C hok_82 (t := (1, (-9223372036854775808), 9223372036854775807)) hkw (by decide) rfl (k := 50 + 6 * j) (v := (f (50 + 6 * j))) (vp_in_nI (by omega) (by decide)) hC (nI_clamp (by omega)) rfl dX11_usedUp_233 ?_
        refine tt_call0S (rest := [.long (((v_72 - (((v_12 - ((((f (20 + 5 * n_7)) / 100000) * (fu n_7)) + ((((f (20 + 5 * n_7)) - (f (20 + 5 * n_7)) / 100000 * 100000) * (fu n_7)) / 100000))) * (f 3)) / (100 : Int64))) * (f (48 + 6 * j))) / (fu n_7))]) C (ct_J9_min_f86c9_1 hl D cA ak (((((v_12 - ((((f (20 + 5 * n_7)) / 100000) * (fu n_7)) + ((((f (20 + 5 * n_7)) - (f (20 + 5 * n_7)) / 100000 * 100000) * (fu n_7)) / 100000))) * (f 3)) / (100 : Int64)) * (f (48 + 6 * j))) / (fu n_7)) (f (50 + 6 * j))) jw_43e83b8e67 jw_a0cddbe894 jw_a731c8553d jw_e0e7ffaaeb jn_J9_min_f86c9 rfl (jj_le rfl) (jj_le rfl) (jj_le rfl) (jj_le rfl) (jj_le rfl) dX11_usedUp_234 rfl (fun w1 r O_83 => ?_)
        rcases O_83 with ⟨c_84, -, rfl⟩ | ⟨c_85, -, rfl⟩
        · have z_c_84 := jc_ltL (a := (f (50 + 6 * j)).toInt) (b := (((((v_12 - ((((f (20 + 5 * n_7)) / 100000) * (fu n_7)) + ((((f (20 + 5 * n_7)) - (f (20 + 5 * n_7)) / 100000 * 100000) * (fu n_7)) / 100000))) * (f 3)) / (100 : Int64)) * (f (48 + 6 * j))) / (fu n_7)).toInt) c_84 rfl rfl
          refine jj_ladd C dX11_usedUp_237 rfl ?_
          refine jj_lload C dX11_usedUp_238 rfl ?_
          refine jj_lsub C dX11_usedUp_240 rfl ?_
          exact jj_lret C ⟨[], pl_81, rfl, rfl, hok_82, hfr, hfa, ⟨_, huc, ⟨n_7, hn_7, qn_7, rfl⟩, (((((v_72 - (((v_12 - ((((f (20 + 5 * n_7)) / 100000) * (fu n_7)) + ((((f (20 + 5 * n_7)) - (f (20 + 5 * n_7)) / 100000 * 100000) * (fu n_7)) / 100000))) * (f 3)) / (100 : Int64))) * (f (48 + 6 * j))) / (fu n_7)) + (f (50 + 6 * j))) - (0 : Int64)), rfl⟩⟩ dX11_usedUp_241 (jj_le rfl) (jj_le rfl)
        · have z_c_85 := jc_nltL (a := (f (50 + 6 * j)).toInt) (b := (((((v_12 - ((((f (20 + 5 * n_7)) / 100000) * (fu n_7)) + ((((f (20 + 5 * n_7)) - (f (20 + 5 * n_7)) / 100000 * 100000) * (fu n_7)) / 100000))) * (f 3)) / (100 : Int64)) * (f (48 + 6 * j))) / (fu n_7)).toInt) c_85 rfl rfl
          refine jj_ladd C dX11_usedUp_237 rfl ?_
          refine jj_lload C dX11_usedUp_238 rfl ?_
          refine jj_lsub C dX11_usedUp_240 rfl ?_
          exact jj_lret C ⟨[], pl_81, rfl, rfl, hok_82, hfr, hfa, ⟨_, huc, ⟨n_7, hn_7, qn_7, rfl⟩, (((((v_72 - (((v_12 - ((((f (20 + 5 * n_7)) / 100000) * (fu n_7)) + ((((f (20 + 5 * n_7)) - (f (20 + 5 * n_7)) / 100000 * 100000) * (fu n_7)) / 100000))) * (f 3)) / (100 : Int64))) * (f (48 + 6 * j))) / (fu n_7)) + (((((v_12 - ((((f (20 + 5 * n_7)) / 100000) * (fu n_7)) + ((((f (20 + 5 * n_7)) - (f (20 + 5 * n_7)) / 100000 * 100000) * (fu n_7)) / 100000))) * (f 3)) / (100 : Int64)) * (f (48 + 6 * j))) / (fu n_7))) - (0 : Int64)), rfl⟩⟩ dX11_usedUp_241 (jj_le rfl) (jj_le rfl)
      · have z_c_77 := jc_neqL (a := (f 1).toInt) (b := 0) c_77 rfl (by decide)
        refine jj_lload C dX11_usedUp_164 rfl ?_
        refine jj_lconst (v := 0) C dX11_usedUp_166 (by decide) ?_
        refine jj_lcmp_gt (tgt := 175) C dX11_usedUp_167 dX11_usedUp_168 (by decide) (fun c_86 => ?_) (fun c_86 => ?_)
        · have z_c_86 := jc_ltL (a := 0) (b := ((f (20 + 5 * n_7)) - (f (49 + 6 * j))).toInt) c_86 (by decide) rfl
          refine jj_lload C dX11_usedUp_175 rfl ?_
          refine jj_lload C dX11_usedUp_177 rfl ?_
          refine jj_lmul C dX11_usedUp_179 rfl ?_
          refine jj_aload_n C dX11_usedUp_180 rfl ?_
          refine tt_getF C hok_2 jk_12 0 (by decide) jw_34eaf3ba8b (t := (2, 2, 0)) hk0 (by decide) rfl rfl hm.1 dX11_usedUp_181 ?_
          refine jj_iconst (v := 3) C dX11_usedUp_184 (by decide) ?_
          refine rl_lald C hok_2 (t := (1, (-9223372036854775808), 9223372036854775807)) hkw (by decide) rfl (k := 3) (v := (f 3)) (vp_in_iff.mpr (by decide)) hC (by decide) rfl dX11_usedUp_185 ?_
          refine jj_lmul C dX11_usedUp_186 rfl ?_
          refine jj_ldc2 (v := 100) C dX11_usedUp_187 jw_0cface3231 ?_
          refine jj_ldiv C dX11_usedUp_190 (by decide) rfl ?_
          refine jj_ldc2 (v := 100000) C dX11_usedUp_191 jw_759d064724 ?_
          refine jj_ldiv C dX11_usedUp_194 (by decide) rfl ?_
          refine jj_lstore C dX11_usedUp_195 (by decide) rfl ?_
          refine jj_aload_n C dX11_usedUp_197 rfl ?_
          refine tt_getF C hok_2 jk_12 21 (by decide) jw_0571619de0 (t := (2, 11, 0)) hk0 (by decide) rfl rfl hf_10 dX11_usedUp_198 ?_
          refine jj_iload_n C dX11_usedUp_201 rfl ?_
          refine jj_dup2 C dX11_usedUp_202 rfl rfl ?_
          refine tt_lald C hok_2 (t := (1, (-9223372036854775808), 9223372036854775807)) ka_11 (by decide) rfl (vp_in_nI (by omega) (by decide)) dX11_usedUp_203 (fun v_87 hv_87 => ?_)
          refine jj_lload C dX11_usedUp_204 rfl ?_
          refine jj_lload C dX11_usedUp_206 rfl ?_
          refine jj_ladd C dX11_usedUp_208 rfl ?_
          refine jj_lsub C dX11_usedUp_209 rfl ?_
          refine rl_last C hok_2 (t := (1, (-9223372036854775808), 9223372036854775807)) ka_11 (by decide) rfl (k := n_7) (vp_in_nI (by omega) (by decide)) (tt_ja _) (nI_clamp (by omega)) dX11_usedUp_210 (fun pl_88 hok_89 tr tl tw => ?_)
          replace hu22 := tr _ _ _ hu22
          replace hf_10 := tr _ _ _ hf_10
          replace hm := hm.arr tr
          replace hfr := hfr.arr tr
          replace huc := tl _ _ (tt_ne hku ka_11 (by decide)) huc
          replace hC := tl _ _ (tt_ne hkw ka_11 (by decide)) hC
          replace hfa := hfa.wr ka_11 tl (by decide)
          refine jj_aload_n C dX11_usedUp_211 rfl ?_
          refine tt_getF C hok_89 jk_12 22 (by decide) jw_24c56b223b (t := (2, 12, 0)) hk0 (by decide) rfl rfl hu22 dX11_usedUp_212 ?_
          refine jj_iload_n C dX11_usedUp_215 rfl ?_
          refine jj_dup2 C dX11_usedUp_216 rfl rfl ?_
          refine rl_lald C hok_89 (t := (1, (-9223372036854775808), 9223372036854775807)) hku (by decide) rfl (k := n_7) (v := (fu n_7)) (vp_in_nI (by omega) (by decide)) huc (nI_clamp (by omega)) rfl dX11_usedUp_217 ?_
          refine jj_lload C dX11_usedUp_218 rfl ?_
          refine jj_lsub C dX11_usedUp_220 rfl ?_
          refine rl_last C hok_89 (t := (1, (-9223372036854775808), 9223372036854775807)) hku (by decide) rfl (k := n_7) (vp_in_nI (by omega) (by decide)) (tt_ja _) (nI_clamp (by omega)) dX11_usedUp_221 (fun pl_90 hok_91 tr tl tw => ?_)
          replace hu22 := tr _ _ _ hu22
          replace hf_10 := tr _ _ _ hf_10
          replace hm := hm.arr tr
          replace hfr := hfr.arr tr
          replace huc := tw _ huc
          replace hC := tl _ _ (tt_ne hkw hku (by decide)) hC
          replace hfa := hfa.wr hku tl (by decide)
          refine jj_lload C dX11_usedUp_222 rfl ?_
          refine jj_lload C dX11_usedUp_224 rfl ?_
          refine jj_aload_n C dX11_usedUp_226 rfl ?_
          refine tt_getF C hok_91 jk_12 0 (by decide) jw_34eaf3ba8b (t := (2, 2, 0)) hk0 (by decide) rfl rfl hm.1 dX11_usedUp_227 ?_
          refine jj_iload_n C dX11_usedUp_230 rfl ?_
          refine jj_iconst (v := 4) C dX11_usedUp_231 (by decide) ?_
          refine jj_iadd (v := nI (50 + 6 * j)) C dX11_usedUp_232 (rl_addR (kn := 4) (by decide) (by omega)) ?_
          refine rl_lald C hok_91 (t := (1, (-9223372036854775808), 9223372036854775807)) hkw (by decide) rfl (k := 50 + 6 * j) (v := (f (50 + 6 * j))) (vp_in_nI (by omega) (by decide)) hC (nI_clamp (by omega)) rfl dX11_usedUp_233 ?_
          refine tt_call0S (rest := [.long (((v_72 - (((v_12 - ((((f (20 + 5 * n_7)) / 100000) * (fu n_7)) + ((((f (20 + 5 * n_7)) - (f (20 + 5 * n_7)) / 100000 * 100000) * (fu n_7)) / 100000))) * (f 3)) / (100 : Int64))) * (f (48 + 6 * j))) / (fu n_7))]) C (ct_J9_min_f86c9_1 hl D cA ak (((((v_12 - ((((f (20 + 5 * n_7)) / 100000) * (fu n_7)) + ((((f (20 + 5 * n_7)) - (f (20 + 5 * n_7)) / 100000 * 100000) * (fu n_7)) / 100000))) * (f 3)) / (100 : Int64)) * (f (48 + 6 * j))) / (fu n_7)) (f (50 + 6 * j))) jw_43e83b8e67 jw_a0cddbe894 jw_a731c8553d jw_e0e7ffaaeb jn_J9_min_f86c9 rfl (jj_le rfl) (jj_le rfl) (jj_le rfl) (jj_le rfl) (jj_le rfl) dX11_usedUp_234 rfl (fun w1 r O_92 => ?_)
          rcases O_92 with ⟨c_93, -, rfl⟩ | ⟨c_94, -, rfl⟩
          · have z_c_93 := jc_ltL (a := (f (50 + 6 * j)).toInt) (b := (((((v_12 - ((((f (20 + 5 * n_7)) / 100000) * (fu n_7)) + ((((f (20 + 5 * n_7)) - (f (20 + 5 * n_7)) / 100000 * 100000) * (fu n_7)) / 100000))) * (f 3)) / (100 : Int64)) * (f (48 + 6 * j))) / (fu n_7)).toInt) c_93 rfl rfl
            refine jj_ladd C dX11_usedUp_237 rfl ?_
            refine jj_lload C dX11_usedUp_238 rfl ?_
            refine jj_lsub C dX11_usedUp_240 rfl ?_
            exact jj_lret C ⟨[], pl_90, rfl, rfl, hok_91, hfr, hfa, ⟨_, huc, ⟨n_7, hn_7, qn_7, rfl⟩, (((((v_72 - (((v_12 - ((((f (20 + 5 * n_7)) / 100000) * (fu n_7)) + ((((f (20 + 5 * n_7)) - (f (20 + 5 * n_7)) / 100000 * 100000) * (fu n_7)) / 100000))) * (f 3)) / (100 : Int64))) * (f (48 + 6 * j))) / (fu n_7)) + (f (50 + 6 * j))) - (((((f (48 + 6 * j)) * ((f (20 + 5 * n_7)) - (f (49 + 6 * j)))) * (f 3)) / (100 : Int64)) / (100000 : Int64))), rfl⟩⟩ dX11_usedUp_241 (jj_le rfl) (jj_le rfl)
          · have z_c_94 := jc_nltL (a := (f (50 + 6 * j)).toInt) (b := (((((v_12 - ((((f (20 + 5 * n_7)) / 100000) * (fu n_7)) + ((((f (20 + 5 * n_7)) - (f (20 + 5 * n_7)) / 100000 * 100000) * (fu n_7)) / 100000))) * (f 3)) / (100 : Int64)) * (f (48 + 6 * j))) / (fu n_7)).toInt) c_94 rfl rfl
            refine jj_ladd C dX11_usedUp_237 rfl ?_
            refine jj_lload C dX11_usedUp_238 rfl ?_
            refine jj_lsub C dX11_usedUp_240 rfl ?_
            exact jj_lret C ⟨[], pl_90, rfl, rfl, hok_91, hfr, hfa, ⟨_, huc, ⟨n_7, hn_7, qn_7, rfl⟩, (((((v_72 - (((v_12 - ((((f (20 + 5 * n_7)) / 100000) * (fu n_7)) + ((((f (20 + 5 * n_7)) - (f (20 + 5 * n_7)) / 100000 * 100000) * (fu n_7)) / 100000))) * (f 3)) / (100 : Int64))) * (f (48 + 6 * j))) / (fu n_7)) + (((((v_12 - ((((f (20 + 5 * n_7)) / 100000) * (fu n_7)) + ((((f (20 + 5 * n_7)) - (f (20 + 5 * n_7)) / 100000 * 100000) * (fu n_7)) / 100000))) * (f 3)) / (100 : Int64)) * (f (48 + 6 * j))) / (fu n_7))) - (((((f (48 + 6 * j)) * ((f (20 + 5 * n_7)) - (f (49 + 6 * j)))) * (f 3)) / (100 : Int64)) / (100000 : Int64))), rfl⟩⟩ dX11_usedUp_241 (jj_le rfl) (jj_le rfl)
        · have z_c_86 := jc_nltL (a := 0) (b := ((f (20 + 5 * n_7)) - (f (49 + 6 * j))).toInt) c_86 (by decide) rfl
          refine jj_lconst (v := 0) C dX11_usedUp_171 (by decide) ?_
          refine jj_goto (tgt := 195) C dX11_usedUp_172 (by decide) ?_
          refine jj_lstore C dX11_usedUp_195 (by decide) rfl ?_
          refine jj_aload_n C dX11_usedUp_197 rfl ?_
          refine tt_getF C hok_2 jk_12 21 (by decide) jw_0571619de0 (t := (2, 11, 0)) hk0 (by decide) rfl rfl hf_10 dX11_usedUp_198 ?_
          refine jj_iload_n C dX11_usedUp_201 rfl ?_
          refine jj_dup2 C dX11_usedUp_202 rfl rfl ?_
          refine tt_lald C hok_2 (t := (1, (-9223372036854775808), 9223372036854775807)) ka_11 (by decide) rfl (vp_in_nI (by omega) (by decide)) dX11_usedUp_203 (fun v_95 hv_95 => ?_)
          refine jj_lload C dX11_usedUp_204 rfl ?_
          refine jj_lload C dX11_usedUp_206 rfl ?_
          refine jj_ladd C dX11_usedUp_208 rfl ?_
          refine jj_lsub C dX11_usedUp_209 rfl ?_
          refine rl_last C hok_2 (t := (1, (-9223372036854775808), 9223372036854775807)) ka_11 (by decide) rfl (k := n_7) (vp_in_nI (by omega) (by decide)) (tt_ja _) (nI_clamp (by omega)) dX11_usedUp_210 (fun pl_96 hok_97 tr tl tw => ?_)
          replace hu22 := tr _ _ _ hu22
          replace hf_10 := tr _ _ _ hf_10
          replace hm := hm.arr tr
          replace hfr := hfr.arr tr
          replace huc := tl _ _ (tt_ne hku ka_11 (by decide)) huc
          replace hC := tl _ _ (tt_ne hkw ka_11 (by decide)) hC
          replace hfa := hfa.wr ka_11 tl (by decide)
          refine jj_aload_n C dX11_usedUp_211 rfl ?_
          refine tt_getF C hok_97 jk_12 22 (by decide) jw_24c56b223b (t := (2, 12, 0)) hk0 (by decide) rfl rfl hu22 dX11_usedUp_212 ?_
          refine jj_iload_n C dX11_usedUp_215 rfl ?_
          refine jj_dup2 C dX11_usedUp_216 rfl rfl ?_
          refine rl_lald C hok_97 (t := (1, (-9223372036854775808), 9223372036854775807)) hku (by decide) rfl (k := n_7) (v := (fu n_7)) (vp_in_nI (by omega) (by decide)) huc (nI_clamp (by omega)) rfl dX11_usedUp_217 ?_
          refine jj_lload C dX11_usedUp_218 rfl ?_
          refine jj_lsub C dX11_usedUp_220 rfl ?_
          refine rl_last C hok_97 (t := (1, (-9223372036854775808), 9223372036854775807)) hku (by decide) rfl (k := n_7) (vp_in_nI (by omega) (by decide)) (tt_ja _) (nI_clamp (by omega)) dX11_usedUp_221 (fun pl_98 hok_99 tr tl tw => ?_)
          replace hu22 := tr _ _ _ hu22
          replace hf_10 := tr _ _ _ hf_10
          replace hm := hm.arr tr
          replace hfr := hfr.arr tr
          replace huc := tw _ huc
          replace hC := tl _ _ (tt_ne hkw hku (by decide)) hC
          replace hfa := hfa.wr hku tl (by decide)
          refine jj_lload C dX11_usedUp_222 rfl ?_
          refine jj_lload C dX11_usedUp_224 rfl ?_
          refine jj_aload_n C dX11_usedUp_226 rfl ?_
          refine tt_getF C hok_99 jk_12 0 (by decide) jw_34eaf3ba8b (t := (2, 2, 0)) hk0 (by decide) rfl rfl hm.1 dX11_usedUp_227 ?_
          refine jj_iload_n C dX11_usedUp_230 rfl ?_
          refine jj_iconst (v := 4) C dX11_usedUp_231 (by decide) ?_
          refine jj_iadd (v := nI (50 + 6 * j)) C dX11_usedUp_232 (rl_addR (kn := 4) (by decide) (by omega)) ?_
          refine rl_lald C hok_99 (t := (1, (-9223372036854775808), 9223372036854775807)) hkw (by decide) rfl (k := 50 + 6 * j) (v := (f (50 + 6 * j))) (vp_in_nI (by omega) (by decide)) hC (nI_clamp (by omega)) rfl dX11_usedUp_233 ?_
          refine tt_call0S (rest := [.long (((v_72 - (((v_12 - ((((f (20 + 5 * n_7)) / 100000) * (fu n_7)) + ((((f (20 + 5 * n_7)) - (f (20 + 5 * n_7)) / 100000 * 100000) * (fu n_7)) / 100000))) * (f 3)) / (100 : Int64))) * (f (48 + 6 * j))) / (fu n_7))]) C (ct_J9_min_f86c9_1 hl D cA ak (((((v_12 - ((((f (20 + 5 * n_7)) / 100000) * (fu n_7)) + ((((f (20 + 5 * n_7)) - (f (20 + 5 * n_7)) / 100000 * 100000) * (fu n_7)) / 100000))) * (f 3)) / (100 : Int64)) * (f (48 + 6 * j))) / (fu n_7)) (f (50 + 6 * j))) jw_43e83b8e67 jw_a0cddbe894 jw_a731c8553d jw_e0e7ffaaeb jn_J9_min_f86c9 rfl (jj_le rfl) (jj_le rfl) (jj_le rfl) (jj_le rfl) (jj_le rfl) dX11_usedUp_234 rfl (fun w1 r O_100 => ?_)
          rcases O_100 with ⟨c_101, -, rfl⟩ | ⟨c_102, -, rfl⟩
          · have z_c_101 := jc_ltL (a := (f (50 + 6 * j)).toInt) (b := (((((v_12 - ((((f (20 + 5 * n_7)) / 100000) * (fu n_7)) + ((((f (20 + 5 * n_7)) - (f (20 + 5 * n_7)) / 100000 * 100000) * (fu n_7)) / 100000))) * (f 3)) / (100 : Int64)) * (f (48 + 6 * j))) / (fu n_7)).toInt) c_101 rfl rfl
            refine jj_ladd C dX11_usedUp_237 rfl ?_
            refine jj_lload C dX11_usedUp_238 rfl ?_
            refine jj_lsub C dX11_usedUp_240 rfl ?_
            exact jj_lret C ⟨[], pl_98, rfl, rfl, hok_99, hfr, hfa, ⟨_, huc, ⟨n_7, hn_7, qn_7, rfl⟩, (((((v_72 - (((v_12 - ((((f (20 + 5 * n_7)) / 100000) * (fu n_7)) + ((((f (20 + 5 * n_7)) - (f (20 + 5 * n_7)) / 100000 * 100000) * (fu n_7)) / 100000))) * (f 3)) / (100 : Int64))) * (f (48 + 6 * j))) / (fu n_7)) + (f (50 + 6 * j))) - (0 : Int64)), rfl⟩⟩ dX11_usedUp_241 (jj_le rfl) (jj_le rfl)
          · have z_c_102 := jc_nltL (a := (f (50 + 6 * j)).toInt) (b := (((((v_12 - ((((f (20 + 5 * n_7)) / 100000) * (fu n_7)) + ((((f (20 + 5 * n_7)) - (f (20 + 5 * n_7)) / 100000 * 100000) * (fu n_7)) / 100000))) * (f 3)) / (100 : Int64)) * (f (48 + 6 * j))) / (fu n_7)).toInt) c_102 rfl rfl
            refine jj_ladd C dX11_usedUp_237 rfl ?_
            refine jj_lload C dX11_usedUp_238 rfl ?_
            refine jj_lsub C dX11_usedUp_240 rfl ?_
            exact jj_lret C ⟨[], pl_98, rfl, rfl, hok_99, hfr, hfa, ⟨_, huc, ⟨n_7, hn_7, qn_7, rfl⟩, (((((v_72 - (((v_12 - ((((f (20 + 5 * n_7)) / 100000) * (fu n_7)) + ((((f (20 + 5 * n_7)) - (f (20 + 5 * n_7)) / 100000 * 100000) * (fu n_7)) / 100000))) * (f 3)) / (100 : Int64))) * (f (48 + 6 * j))) / (fu n_7)) + (((((v_12 - ((((f (20 + 5 * n_7)) / 100000) * (fu n_7)) + ((((f (20 + 5 * n_7)) - (f (20 + 5 * n_7)) / 100000 * 100000) * (fu n_7)) / 100000))) * (f 3)) / (100 : Int64)) * (f (48 + 6 * j))) / (fu n_7))) - (0 : Int64)), rfl⟩⟩ dX11_usedUp_241 (jj_le rfl) (jj_le rfl)
    · have z_c_76 := jc_nltL (a := (f (20 + 5 * n_7)).toInt) (b := ((v_73 * (100000 : Int64)) / (fu n_7)).toInt) c_76 rfl rfl
      refine jj_aload_n C dX11_usedUp_142 rfl ?_
      refine tt_getF C hok_2 jk_12 0 (by decide) jw_34eaf3ba8b (t := (2, 2, 0)) hk0 (by decide) rfl rfl hm.1 dX11_usedUp_143 ?_
      refine jj_iload_n C dX11_usedUp_146 rfl ?_
      refine jj_iconst (v := 3) C dX11_usedUp_147 (by decide) ?_
      refine jj_iadd (v := nI (49 + 6 * j)) C dX11_usedUp_148 (rl_addR (kn := 3) (by decide) (by omega)) ?_
      refine rl_lald C hok_2 (t := (1, (-9223372036854775808), 9223372036854775807)) hkw (by decide) rfl (k := 49 + 6 * j) (v := (f (49 + 6 * j))) (vp_in_nI (by omega) (by decide)) hC (nI_clamp (by omega)) rfl dX11_usedUp_149 ?_
      refine jj_lsub C dX11_usedUp_150 rfl ?_
      refine jj_lstore C dX11_usedUp_151 (by decide) rfl ?_
      refine jj_aload_n C dX11_usedUp_153 rfl ?_
      refine tt_getF C hok_2 jk_12 0 (by decide) jw_34eaf3ba8b (t := (2, 2, 0)) hk0 (by decide) rfl rfl hm.1 dX11_usedUp_154 ?_
      refine jj_iconst (v := 1) C dX11_usedUp_157 (by decide) ?_
      refine rl_lald C hok_2 (t := (1, (-9223372036854775808), 9223372036854775807)) hkw (by decide) rfl (k := 1) (v := (f 1)) (vp_in_iff.mpr (by decide)) hC (by decide) rfl dX11_usedUp_158 ?_
      refine jj_lconst (v := 0) C dX11_usedUp_159 (by decide) ?_
      refine jj_lcmp_eq (tgt := 171) C dX11_usedUp_160 dX11_usedUp_161 (by decide) (fun c_103 => ?_) (fun c_103 => ?_)
      · have z_c_103 := jc_eqL (a := (f 1).toInt) (b := 0) c_103 rfl (by decide)
        refine jj_lconst (v := 0) C dX11_usedUp_171 (by decide) ?_
        refine jj_goto (tgt := 195) C dX11_usedUp_172 (by decide) ?_
        refine jj_lstore C dX11_usedUp_195 (by decide) rfl ?_
        refine jj_aload_n C dX11_usedUp_197 rfl ?_
        refine tt_getF C hok_2 jk_12 21 (by decide) jw_0571619de0 (t := (2, 11, 0)) hk0 (by decide) rfl rfl hf_10 dX11_usedUp_198 ?_
        refine jj_iload_n C dX11_usedUp_201 rfl ?_
        refine jj_dup2 C dX11_usedUp_202 rfl rfl ?_
        refine tt_lald C hok_2 (t := (1, (-9223372036854775808), 9223372036854775807)) ka_11 (by decide) rfl (vp_in_nI (by omega) (by decide)) dX11_usedUp_203 (fun v_104 hv_104 => ?_)
        refine jj_lload C dX11_usedUp_204 rfl ?_
        refine jj_lload C dX11_usedUp_206 rfl ?_
        refine jj_ladd C dX11_usedUp_208 rfl ?_
        refine jj_lsub C dX11_usedUp_209 rfl ?_
        refine rl_last C hok_2 (t := (1, (-9223372036854775808), 9223372036854775807)) ka_11 (by decide) rfl (k := n_7) (vp_in_nI (by omega) (by decide)) (tt_ja _) (nI_clamp (by omega)) dX11_usedUp_210 (fun pl_105 hok_106 tr tl tw => ?_)
        replace hu22 := tr _ _ _ hu22
        replace hf_10 := tr _ _ _ hf_10
        replace hm := hm.arr tr
        replace hfr := hfr.arr tr
        replace huc := tl _ _ (tt_ne hku ka_11 (by decide)) huc
        replace hC := tl _ _ (tt_ne hkw ka_11 (by decide)) hC
        replace hfa := hfa.wr ka_11 tl (by decide)
        refine jj_aload_n C dX11_usedUp_211 rfl ?_
        refine tt_getF C hok_106 jk_12 22 (by decide) jw_24c56b223b (t := (2, 12, 0)) hk0 (by decide) rfl rfl hu22 dX11_usedUp_212 ?_
        refine jj_iload_n C dX11_usedUp_215 rfl ?_
        refine jj_dup2 C dX11_usedUp_216 rfl rfl ?_
        refine rl_lald C hok_106 (t := (1, (-9223372036854775808), 9223372036854775807)) hku (by decide) rfl (k := n_7) (v := (fu n_7)) (vp_in_nI (by omega) (by decide)) huc (nI_clamp (by omega)) rfl dX11_usedUp_217 ?_
        refine jj_lload C dX11_usedUp_218 rfl ?_
        refine jj_lsub C dX11_usedUp_220 rfl ?_
        refine rl_last C hok_106 (t := (1, (-9223372036854775808), 9223372036854775807)) hku (by decide) rfl (k := n_7) (vp_in_nI (by omega) (by decide)) (tt_ja _) (nI_clamp (by omega)) dX11_usedUp_221 (fun pl_107 hok_108 tr tl tw => ?_)
        replace hu22 := tr _ _ _ hu22
        replace hf_10 := tr _ _ _ hf_10
        replace hm := hm.arr tr
        replace hfr := hfr.arr tr
        replace huc := tw _ huc
        replace hC := tl _ _ (tt_ne hkw hku (by decide)) hC
        replace hfa := hfa.wr hku tl (by decide)
        refine jj_lload C dX11_usedUp_222 rfl ?_
        refine jj_lload C dX11_usedUp_224 rfl ?_
        refine jj_aload_n C dX11_usedUp_226 rfl ?_
        refine tt_getF C hok_108 jk_12 0 (by decide) jw_34eaf3ba8b (t := (2, 2, 0)) hk0 (by decide) rfl rfl hm.1 dX11_usedUp_227 ?_
        refine jj_iload_n C dX11_usedUp_230 rfl ?_
        refine jj_iconst (v := 4) C dX11_usedUp_231 (by decide) ?_
        refine jj_iadd (v := nI (50 + 6 * j)) C dX11_usedUp_232 (rl_addR (kn := 4) (by decide) (by omega)) ?_
        refine rl_lald C hok_108 (t := (1, (-9223372036854775808), 9223372036854775807)) hkw (by decide) rfl (k := 50 + 6 * j) (v := (f (50 + 6 * j))) (vp_in_nI (by omega) (by decide)) hC (nI_clamp (by omega)) rfl dX11_usedUp_233 ?_
        refine tt_call0S (rest := [.long (((v_72 - (((v_12 - ((((f (20 + 5 * n_7)) / 100000) * (fu n_7)) + ((((f (20 + 5 * n_7)) - (f (20 + 5 * n_7)) / 100000 * 100000) * (fu n_7)) / 100000))) * (f 3)) / (100 : Int64))) * (f (48 + 6 * j))) / (fu n_7))]) C (ct_J9_min_f86c9_1 hl D cA ak (((((v_12 - ((((f (20 + 5 * n_7)) / 100000) * (fu n_7)) + ((((f (20 + 5 * n_7)) - (f (20 + 5 * n_7)) / 100000 * 100000) * (fu n_7)) / 100000))) * (f 3)) / (100 : Int64)) * (f (48 + 6 * j))) / (fu n_7)) (f (50 + 6 * j))) jw_43e83b8e67 jw_a0cddbe894 jw_a731c8553d jw_e0e7ffaaeb jn_J9_min_f86c9 rfl (jj_le rfl) (jj_le rfl) (jj_le rfl) (jj_le rfl) (jj_le rfl) dX11_usedUp_234 rfl (fun w1 r O_109 => ?_)
        rcases O_109 with ⟨c_110, -, rfl⟩ | ⟨c_111, -, rfl⟩
        · have z_c_110 := jc_ltL (a := (f (50 + 6 * j)).toInt) (b := (((((v_12 - ((((f (20 + 5 * n_7)) / 100000) * (fu n_7)) + ((((f (20 + 5 * n_7)) - (f (20 + 5 * n_7)) / 100000 * 100000) * (fu n_7)) / 100000))) * (f 3)) / (100 : Int64)) * (f (48 + 6 * j))) / (fu n_7)).toInt) c_110 rfl rfl
          refine jj_ladd C dX11_usedUp_237 rfl ?_
          refine jj_lload C dX11_usedUp_238 rfl ?_
          refine jj_lsub C dX11_usedUp_240 rfl ?_
          exact jj_lret C ⟨[], pl_107, rfl, rfl, hok_108, hfr, hfa, ⟨_, huc, ⟨n_7, hn_7, qn_7, rfl⟩, (((((v_72 - (((v_12 - ((((f (20 + 5 * n_7)) / 100000) * (fu n_7)) + ((((f (20 + 5 * n_7)) - (f (20 + 5 * n_7)) / 100000 * 100000) * (fu n_7)) / 100000))) * (f 3)) / (100 : Int64))) * (f (48 + 6 * j))) / (fu n_7)) + (f (50 + 6 * j))) - (0 : Int64)), rfl⟩⟩ dX11_usedUp_241 (jj_le rfl) (jj_le rfl)
        · have z_c_111 := jc_nltL (a := (f (50 + 6 * j)).toInt) (b := (((((v_12 - ((((f (20 + 5 * n_7)) / 100000) * (fu n_7)) + ((((f (20 + 5 * n_7)) - (f (20 + 5 * n_7)) / 100000 * 100000) * (fu n_7)) / 100000))) * (f 3)) / (100 : Int64)) * (f (48 + 6 * j))) / (fu n_7)).toInt) c_111 rfl rfl
          refine jj_ladd C dX11_usedUp_237 rfl ?_
          refine jj_lload C dX11_usedUp_238 rfl ?_
          refine jj_lsub C dX11_usedUp_240 rfl ?_
          exact jj_lret C ⟨[], pl_107, rfl, rfl, hok_108, hfr, hfa, ⟨_, huc, ⟨n_7, hn_7, qn_7, rfl⟩, (((((v_72 - (((v_12 - ((((f (20 + 5 * n_7)) / 100000) * (fu n_7)) + ((((f (20 + 5 * n_7)) - (f (20 + 5 * n_7)) / 100000 * 100000) * (fu n_7)) / 100000))) * (f 3)) / (100 : Int64))) * (f (48 + 6 * j))) / (fu n_7)) + (((((v_12 - ((((f (20 + 5 * n_7)) / 100000) * (fu n_7)) + ((((f (20 + 5 * n_7)) - (f (20 + 5 * n_7)) / 100000 * 100000) * (fu n_7)) / 100000))) * (f 3)) / (100 : Int64)) * (f (48 + 6 * j))) / (fu n_7))) - (0 : Int64)), rfl⟩⟩ dX11_usedUp_241 (jj_le rfl) (jj_le rfl)
      · have z_c_103 := jc_neqL (a := (f 1).toInt) (b := 0) c_103 rfl (by decide)
        refine jj_lload C dX11_usedUp_164 rfl ?_
        refine jj_lconst (v := 0) C dX11_usedUp_166 (by decide) ?_
        refine jj_lcmp_gt (tgt := 175) C dX11_usedUp_167 dX11_usedUp_168 (by decide) (fun c_112 => ?_) (fun c_112 => ?_)
        · have z_c_112 := jc_ltL (a := 0) (b := (((v_73 * (100000 : Int64)) / (fu n_7)) - (f (49 + 6 * j))).toInt) c_112 (by decide) rfl
          refine jj_lload C dX11_usedUp_175 rfl ?_
          refine jj_lload C dX11_usedUp_177 rfl ?_
          refine jj_lmul C dX11_usedUp_179 rfl ?_
          refine jj_aload_n C dX11_usedUp_180 rfl ?_
          refine tt_getF C hok_2 jk_12 0 (by decide) jw_34eaf3ba8b (t := (2, 2, 0)) hk0 (by decide) rfl rfl hm.1 dX11_usedUp_181 ?_
          refine jj_iconst (v := 3) C dX11_usedUp_184 (by decide) ?_
          refine rl_lald C hok_2 (t := (1, (-9223372036854775808), 9223372036854775807)) hkw (by decide) rfl (k := 3) (v := (f 3)) (vp_in_iff.mpr (by decide)) hC (by decide) rfl dX11_usedUp_185 ?_
          refine jj_lmul C dX11_usedUp_186 rfl ?_
          refine jj_ldc2 (v := 100) C dX11_usedUp_187 jw_0cface3231 ?_
          refine jj_ldiv C dX11_usedUp_190 (by decide) rfl ?_
          refine jj_ldc2 (v := 100000) C dX11_usedUp_191 jw_759d064724 ?_
          refine jj_ldiv C dX11_usedUp_194 (by decide) rfl ?_
          refine jj_lstore C dX11_usedUp_195 (by decide) rfl ?_
          refine jj_aload_n C dX11_usedUp_197 rfl ?_
          refine tt_getF C hok_2 jk_12 21 (by decide) jw_0571619de0 (t := (2, 11, 0)) hk0 (by decide) rfl rfl hf_10 dX11_usedUp_198 ?_
          refine jj_iload_n C dX11_usedUp_201 rfl ?_
          refine jj_dup2 C dX11_usedUp_202 rfl rfl ?_
          refine tt_lald C hok_2 (t := (1, (-9223372036854775808), 9223372036854775807)) ka_11 (by decide) rfl (vp_in_nI (by omega) (by decide)) dX11_usedUp_203 (fun v_113 hv_113 => ?_)
          refine jj_lload C dX11_usedUp_204 rfl ?_
          refine jj_lload C dX11_usedUp_206 rfl ?_
          refine jj_ladd C dX11_usedUp_208 rfl ?_
          refine jj_lsub C dX11_usedUp_209 rfl ?_
          refine rl_last C hok_2 (t := (1, (-9223372036854775808), 9223372036854775807)) ka_11 (by decide) rfl (k := n_7) (vp_in_nI (by omega) (by decide)) (tt_ja _) (nI_clamp (by omega)) dX11_usedUp_210 (fun pl_114 hok_115 tr tl tw => ?_)
          replace hu22 := tr _ _ _ hu22
          replace hf_10 := tr _ _ _ hf_10
          replace hm := hm.arr tr
          replace hfr := hfr.arr tr
          replace huc := tl _ _ (tt_ne hku ka_11 (by decide)) huc
          replace hC := tl _ _ (tt_ne hkw ka_11 (by decide)) hC
          replace hfa := hfa.wr ka_11 tl (by decide)
          refine jj_aload_n C dX11_usedUp_211 rfl ?_
          refine tt_getF C hok_115 jk_12 22 (by decide) jw_24c56b223b (t := (2, 12, 0)) hk0 (by decide) rfl rfl hu22 dX11_usedUp_212 ?_
          refine jj_iload_n C dX11_usedUp_215 rfl ?_
          refine jj_dup2 C dX11_usedUp_216 rfl rfl ?_
          refine rl_lald C hok_115 (t := (1, (-9223372036854775808), 9223372036854775807)) hku (by decide) rfl (k := n_7) (v := (fu n_7)) (vp_in_nI (by omega) (by decide)) huc (nI_clamp (by omega)) rfl dX11_usedUp_217 ?_
          refine jj_lload C dX11_usedUp_218 rfl ?_
          refine jj_lsub C dX11_usedUp_220 rfl ?_
          refine rl_last C hok_115 (t := (1, (-9223372036854775808), 9223372036854775807)) hku (by decide) rfl (k := n_7) (vp_in_nI (by omega) (by decide)) (tt_ja _) (nI_clamp (by omega)) dX11_usedUp_221 (fun pl_116 hok_117 tr tl tw => ?_)
          replace hu22 := tr _ _ _ hu22
          replace hf_10 := tr _ _ _ hf_10
          replace hm := hm.arr tr
          replace hfr := hfr.arr tr
          replace huc := tw _ huc
          replace hC := tl _ _ (tt_ne hkw hku (by decide)) hC
          replace hfa := hfa.wr hku tl (by decide)
          refine jj_lload C dX11_usedUp_222 rfl ?_
          refine jj_lload C dX11_usedUp_224 rfl ?_
          refine jj_aload_n C dX11_usedUp_226 rfl ?_
          refine tt_getF C hok_117 jk_12 0 (by decide) jw_34eaf3ba8b (t := (2, 2, 0)) hk0 (by decide) rfl rfl hm.1 dX11_usedUp_227 ?_
          refine jj_iload_n C dX11_usedUp_230 rfl ?_
          refine jj_iconst (v := 4) C dX11_usedUp_231 (by decide) ?_
          refine jj_iadd (v := nI (50 + 6 * j)) C dX11_usedUp_232 (rl_addR (kn := 4) (by decide) (by omega)) ?_
          refine rl_lald C hok_117 (t := (1, (-9223372036854775808), 9223372036854775807)) hkw (by decide) rfl (k := 50 + 6 * j) (v := (f (50 + 6 * j))) (vp_in_nI (by omega) (by decide)) hC (nI_clamp (by omega)) rfl dX11_usedUp_233 ?_
          refine tt_call0S (rest := [.long (((v_72 - (((v_12 - ((((f (20 + 5 * n_7)) / 100000) * (fu n_7)) + ((((f (20 + 5 * n_7)) - (f (20 + 5 * n_7)) / 100000 * 100000) * (fu n_7)) / 100000))) * (f 3)) / (100 : Int64))) * (f (48 + 6 * j))) / (fu n_7))]) C (ct_J9_min_f86c9_1 hl D cA ak (((((v_12 - ((((f (20 + 5 * n_7)) / 100000) * (fu n_7)) + ((((f (20 + 5 * n_7)) - (f (20 + 5 * n_7)) / 100000 * 100000) * (fu n_7)) / 100000))) * (f 3)) / (100 : Int64)) * (f (48 + 6 * j))) / (fu n_7)) (f (50 + 6 * j))) jw_43e83b8e67 jw_a0cddbe894 jw_a731c8553d jw_e0e7ffaaeb jn_J9_min_f86c9 rfl (jj_le rfl) (jj_le rfl) (jj_le rfl) (jj_le rfl) (jj_le rfl) dX11_usedUp_234 rfl (fun w1 r O_118 => ?_)
          rcases O_118 with ⟨c_119, -, rfl⟩ | ⟨c_120, -, rfl⟩
          · have z_c_119 := jc_ltL (a := (f (50 + 6 * j)).toInt) (b := (((((v_12 - ((((f (20 + 5 * n_7)) / 100000) * (fu n_7)) + ((((f (20 + 5 * n_7)) - (f (20 + 5 * n_7)) / 100000 * 100000) * (fu n_7)) / 100000))) * (f 3)) / (100 : Int64)) * (f (48 + 6 * j))) / (fu n_7)).toInt) c_119 rfl rfl
            refine jj_ladd C dX11_usedUp_237 rfl ?_
            refine jj_lload C dX11_usedUp_238 rfl ?_
            refine jj_lsub C dX11_usedUp_240 rfl ?_
            exact jj_lret C ⟨[], pl_116, rfl, rfl, hok_117, hfr, hfa, ⟨_, huc, ⟨n_7, hn_7, qn_7, rfl⟩, (((((v_72 - (((v_12 - ((((f (20 + 5 * n_7)) / 100000) * (fu n_7)) + ((((f (20 + 5 * n_7)) - (f (20 + 5 * n_7)) / 100000 * 100000) * (fu n_7)) / 100000))) * (f 3)) / (100 : Int64))) * (f (48 + 6 * j))) / (fu n_7)) + (f (50 + 6 * j))) - (((((f (48 + 6 * j)) * (((v_73 * (100000 : Int64)) / (fu n_7)) - (f (49 + 6 * j)))) * (f 3)) / (100 : Int64)) / (100000 : Int64))), rfl⟩⟩ dX11_usedUp_241 (jj_le rfl) (jj_le rfl)
          · have z_c_120 := jc_nltL (a := (f (50 + 6 * j)).toInt) (b := (((((v_12 - ((((f (20 + 5 * n_7)) / 100000) * (fu n_7)) + ((((f (20 + 5 * n_7)) - (f (20 + 5 * n_7)) / 100000 * 100000) * (fu n_7)) / 100000))) * (f 3)) / (100 : Int64)) * (f (48 + 6 * j))) / (fu n_7)).toInt) c_120 rfl rfl
            refine jj_ladd C dX11_usedUp_237 rfl ?_
            refine jj_lload C dX11_usedUp_238 rfl ?_
            refine jj_lsub C dX11_usedUp_240 rfl ?_
            exact jj_lret C ⟨[], pl_116, rfl, rfl, hok_117, hfr, hfa, ⟨_, huc, ⟨n_7, hn_7, qn_7, rfl⟩, (((((v_72 - (((v_12 - ((((f (20 + 5 * n_7)) / 100000) * (fu n_7)) + ((((f (20 + 5 * n_7)) - (f (20 + 5 * n_7)) / 100000 * 100000) * (fu n_7)) / 100000))) * (f 3)) / (100 : Int64))) * (f (48 + 6 * j))) / (fu n_7)) + (((((v_12 - ((((f (20 + 5 * n_7)) / 100000) * (fu n_7)) + ((((f (20 + 5 * n_7)) - (f (20 + 5 * n_7)) / 100000 * 100000) * (fu n_7)) / 100000))) * (f 3)) / (100 : Int64)) * (f (48 + 6 * j))) / (fu n_7))) - (((((f (48 + 6 * j)) * (((v_73 * (100000 : Int64)) / (fu n_7)) - (f (49 + 6 * j)))) * (f 3)) / (100 : Int64)) / (100000 : Int64))), rfl⟩⟩ dX11_usedUp_241 (jj_le rfl) (jj_le rfl)
        · have z_c_112 := jc_nltL (a := 0) (b := (((v_73 * (100000 : Int64)) / (fu n_7)) - (f (49 + 6 * j))).toInt) c_112 (by decide) rfl
          refine jj_lconst (v := 0) C dX11_usedUp_171 (by decide) ?_
          refine jj_goto (tgt := 195) C dX11_usedUp_172 (by decide) ?_
          refine jj_lstore C dX11_usedUp_195 (by decide) rfl ?_
          refine jj_aload_n C dX11_usedUp_197 rfl ?_
          refine tt_getF C hok_2 jk_12 21 (by decide) jw_0571619de0 (t := (2, 11, 0)) hk0 (by decide) rfl rfl hf_10 dX11_usedUp_198 ?_
          refine jj_iload_n C dX11_usedUp_201 rfl ?_
          refine jj_dup2 C dX11_usedUp_202 rfl rfl ?_
          refine tt_lald C hok_2 (t := (1, (-9223372036854775808), 9223372036854775807)) ka_11 (by decide) rfl (vp_in_nI (by omega) (by decide)) dX11_usedUp_203 (fun v_121 hv_121 => ?_)
          refine jj_lload C dX11_usedUp_204 rfl ?_
          refine jj_lload C dX11_usedUp_206 rfl ?_
          refine jj_ladd C dX11_usedUp_208 rfl ?_
          refine jj_lsub C dX11_usedUp_209 rfl ?_
          refine rl_last C hok_2 (t := (1, (-9223372036854775808), 9223372036854775807)) ka_11 (by decide) rfl (k := n_7) (vp_in_nI (by omega) (by decide)) (tt_ja _) (nI_clamp (by omega)) dX11_usedUp_210 (fun pl_122 hok_123 tr tl tw => ?_)
          replace hu22 := tr _ _ _ hu22
          replace hf_10 := tr _ _ _ hf_10
          replace hm := hm.arr tr
          replace hfr := hfr.arr tr
          replace huc := tl _ _ (tt_ne hku ka_11 (by decide)) huc
          replace hC := tl _ _ (tt_ne hkw ka_11 (by decide)) hC
          replace hfa := hfa.wr ka_11 tl (by decide)
          refine jj_aload_n C dX11_usedUp_211 rfl ?_
          refine tt_getF C hok_123 jk_12 22 (by decide) jw_24c56b223b (t := (2, 12, 0)) hk0 (by decide) rfl rfl hu22 dX11_usedUp_212 ?_
          refine jj_iload_n C dX11_usedUp_215 rfl ?_
          refine jj_dup2 C dX11_usedUp_216 rfl rfl ?_
          refine rl_lald C hok_123 (t := (1, (-9223372036854775808), 9223372036854775807)) hku (by decide) rfl (k := n_7) (v := (fu n_7)) (vp_in_nI (by omega) (by decide)) huc (nI_clamp (by omega)) rfl dX11_usedUp_217 ?_
          refine jj_lload C dX11_usedUp_218 rfl ?_
          refine jj_lsub C dX11_usedUp_220 rfl ?_
          refine rl_last C hok_123 (t := (1, (-9223372036854775808), 9223372036854775807)) hku (by decide) rfl (k := n_7) (vp_in_nI (by omega) (by decide)) (tt_ja _) (nI_clamp (by omega)) dX11_usedUp_221 (fun pl_124 hok_125 tr tl tw => ?_)
          replace hu22 := tr _ _ _ hu22
          replace hf_10 := tr _ _ _ hf_10
          replace hm := hm.arr tr
          replace hfr := hfr.arr tr
          replace huc := tw _ huc
          replace hC := tl _ _ (tt_ne hkw hku (by decide)) hC
          replace hfa := hfa.wr hku tl (by decide)
          refine jj_lload C dX11_usedUp_222 rfl ?_
          refine jj_lload C dX11_usedUp_224 rfl ?_
          refine jj_aload_n C dX11_usedUp_226 rfl ?_
          refine tt_getF C hok_125 jk_12 0 (by decide) jw_34eaf3ba8b (t := (2, 2, 0)) hk0 (by decide) rfl rfl hm.1 dX11_usedUp_227 ?_
          refine jj_iload_n C dX11_usedUp_230 rfl ?_
          refine jj_iconst (v := 4) C dX11_usedUp_231 (by decide) ?_
          refine jj_iadd (v := nI (50 + 6 * j)) C dX11_usedUp_232 (rl_addR (kn := 4) (by decide) (by omega)) ?_
          refine rl_lald C hok_125 (t := (1, (-9223372036854775808), 9223372036854775807)) hkw (by decide) rfl (k := 50 + 6 * j) (v := (f (50 + 6 * j))) (vp_in_nI (by omega) (by decide)) hC (nI_clamp (by omega)) rfl dX11_usedUp_233 ?_
          refine tt_call0S (rest := [.long (((v_72 - (((v_12 - ((((f (20 + 5 * n_7)) / 100000) * (fu n_7)) + ((((f (20 + 5 * n_7)) - (f (20 + 5 * n_7)) / 100000 * 100000) * (fu n_7)) / 100000))) * (f 3)) / (100 : Int64))) * (f (48 + 6 * j))) / (fu n_7))]) C (ct_J9_min_f86c9_1 hl D cA ak (((((v_12 - ((((f (20 + 5 * n_7)) / 100000) * (fu n_7)) + ((((f (20 + 5 * n_7)) - (f (20 + 5 * n_7)) / 100000 * 100000) * (fu n_7)) / 100000))) * (f 3)) / (100 : Int64)) * (f (48 + 6 * j))) / (fu n_7)) (f (50 + 6 * j))) jw_43e83b8e67 jw_a0cddbe894 jw_a731c8553d jw_e0e7ffaaeb jn_J9_min_f86c9 rfl (jj_le rfl) (jj_le rfl) (jj_le rfl) (jj_le rfl) (jj_le rfl) dX11_usedUp_234 rfl (fun w1 r O_126 => ?_)
          rcases O_126 with ⟨c_127, -, rfl⟩ | ⟨c_128, -, rfl⟩
          · have z_c_127 := jc_ltL (a := (f (50 + 6 * j)).toInt) (b := (((((v_12 - ((((f (20 + 5 * n_7)) / 100000) * (fu n_7)) + ((((f (20 + 5 * n_7)) - (f (20 + 5 * n_7)) / 100000 * 100000) * (fu n_7)) / 100000))) * (f 3)) / (100 : Int64)) * (f (48 + 6 * j))) / (fu n_7)).toInt) c_127 rfl rfl
            refine jj_ladd C dX11_usedUp_237 rfl ?_
            refine jj_lload C dX11_usedUp_238 rfl ?_
            refine jj_lsub C dX11_usedUp_240 rfl ?_
            exact jj_lret C ⟨[], pl_124, rfl, rfl, hok_125, hfr, hfa, ⟨_, huc, ⟨n_7, hn_7, qn_7, rfl⟩, (((((v_72 - (((v_12 - ((((f (20 + 5 * n_7)) / 100000) * (fu n_7)) + ((((f (20 + 5 * n_7)) - (f (20 + 5 * n_7)) / 100000 * 100000) * (fu n_7)) / 100000))) * (f 3)) / (100 : Int64))) * (f (48 + 6 * j))) / (fu n_7)) + (f (50 + 6 * j))) - (0 : Int64)), rfl⟩⟩ dX11_usedUp_241 (jj_le rfl) (jj_le rfl)
          · have z_c_128 := jc_nltL (a := (f (50 + 6 * j)).toInt) (b := (((((v_12 - ((((f (20 + 5 * n_7)) / 100000) * (fu n_7)) + ((((f (20 + 5 * n_7)) - (f (20 + 5 * n_7)) / 100000 * 100000) * (fu n_7)) / 100000))) * (f 3)) / (100 : Int64)) * (f (48 + 6 * j))) / (fu n_7)).toInt) c_128 rfl rfl
            refine jj_ladd C dX11_usedUp_237 rfl ?_
            refine jj_lload C dX11_usedUp_238 rfl ?_
            refine jj_lsub C dX11_usedUp_240 rfl ?_
            exact jj_lret C ⟨[], pl_124, rfl, rfl, hok_125, hfr, hfa, ⟨_, huc, ⟨n_7, hn_7, qn_7, rfl⟩, (((((v_72 - (((v_12 - ((((f (20 + 5 * n_7)) / 100000) * (fu n_7)) + ((((f (20 + 5 * n_7)) - (f (20 + 5 * n_7)) / 100000 * 100000) * (fu n_7)) / 100000))) * (f 3)) / (100 : Int64))) * (f (48 + 6 * j))) / (fu n_7)) + (((((v_12 - ((((f (20 + 5 * n_7)) / 100000) * (fu n_7)) + ((((f (20 + 5 * n_7)) - (f (20 + 5 * n_7)) / 100000 * 100000) * (fu n_7)) / 100000))) * (f 3)) / (100 : Int64)) * (f (48 + 6 * j))) / (fu n_7))) - (0 : Int64)), rfl⟩⟩ dX11_usedUp_241 (jj_le rfl) (jj_le rfl)

set_option maxHeartbeats 4000000 in
set_option maxRecDepth 100000 in
theorem rs_worthBy {l : Launch} (hl : l.stackTraces = false) (D : va_G) (cA : Nat → ClassId) (ak : (Nat → Nat) × (Nat → Nat)) {Kd : Nat → Nat} {h0 aw aa at0 ai af ap : Nat} (p1 p2 : Int32) (B : Int) (f : Nat → Int64) (hk0 : Kd h0 = 1) (hkw : Kd aw = 2) (hka : Kd aa = 3) (hkt : Kd at0 = 4) (hki : Kd ai = 5) (hkf : Kd af = 6) (hkp : Kd ap = 7) (hI : rl_I B f) (hP : rl_P f) {pl0 : va_W} (hok : tt_ok rt_tk cA Kd pl0) (hm : rl_m pl0 h0 aw aa at0 ai af ap) (hC : tt_lc pl0 aw f) : jj_M l D cA ak yX11_worthBy (.code yX11_worthBy cX11_worthBy 6 (some .long)) 4 103 0 0 ([] ++ pl0) [.ref h0, .int p1, .int p2] (tt_O (fun rx pl1 r => rx = [] ∧ tt_ok rt_tk cA Kd pl1 ∧ tt_fr Kd [] pl0 pl1 ∧ tt_fa Kd [11, 12] pl0 pl1 ∧ ((∃ v : Int64, r = some (.long v))))) (tt_OX (fun _ _ _ => False)) := by
  refine jj_start hl (by decide) jw_9eaf9a2ff0 (jj_le rfl) ?_
  intro p e s m args below meth c A hargs hA C hex hmn
  have hfr := tt_fr.refl (K := Kd) (WS := []) pl0
  have hfa := tt_fa.refl (K := Kd) (WA := [11, 12]) pl0
  have hH := hI.1.1
  obtain ⟨⟨g0a, g0b⟩, ⟨g1a, g1b⟩, ⟨g6a, g6b⟩, ⟨g7a, g7b⟩, ⟨g8a, g8b⟩⟩ := hH
  have lp1 := tt_lo p1
  have up1 := tt_hi p1
  have lp2 := tt_lo p2
  have up2 := tt_hi p2
  obtain ⟨au, fu, hku, hu22, huc⟩ := rl_ulx hok hk0
  refine jj_iconst (v := 0) C dX11_worthBy_0 (by decide) ?_
  refine jj_istore_n C dX11_worthBy_1 (by decide) rfl ?_
  have hL_1 : ∀ (N : Nat) (pl : va_W) (k_2 : Nat) (g_3 : Nat → Int64), True → tt_ok rt_tk cA Kd pl → tt_fr Kd [] pl0 pl → tt_fa Kd [11, 12] pl0 pl → rl_m pl h0 aw aa at0 ai af ap → tt_at pl h0 22 (.ref au) → tt_lc pl aw f → tt_lc pl au g_3 → (∀ a : Nat, a < k_2 → g_3 a = f (19 + 5 * a)) → (0 : Int) ≤ (k_2 : Int) → (k_2 : Int) ≤ 6 → (2147483648 - (k_2 : Int) ≤ (N : Int)) → jj_J p l e (jj_rm 4 103 0 0) s m args below meth c 6 A (vx_MQ below (jj_q D A (tt_O (fun rx pl1 r => rx = [] ∧ tt_ok rt_tk cA Kd pl1 ∧ tt_fr Kd [] pl0 pl1 ∧ tt_fa Kd [11, 12] pl0 pl1 ∧ ((∃ v : Int64, r = some (.long v)))))) (jj_x D A (tt_OX (fun _ _ _ => False))) args s 0 0 A) (jj_X D A ([] ++ pl)) 0 0 2 [(3, .int (nI k_2)), (0, .ref h0), (1, .int p1), (2, .int p2)] [] := by
    intro NL_1
    induction NL_1 with
    | zero => intro pl k_2 g_3 _ hok hfr hfa hm hf_4 hC hC_5 hD_6 lk_2 uk_2 hNL_1; exfalso; omega
    | succ NL_1 ihL_1 =>
      intro pl k_2 g_3 _ hok hfr hfa hm hf_4 hC hC_5 hD_6 lk_2 uk_2 hNL_1
      replace ihL_1 := fun pl k_2 g_3 h1 => ihL_1 pl k_2 g_3 trivial h1
      refine jj_iload_n C dX11_worthBy_2 rfl ?_
      refine jj_i2l C dX11_worthBy_3 rfl ?_
      refine jj_aload_n C dX11_worthBy_4 rfl ?_
      refine tt_getF C hok jk_12 0 (by decide) jw_34eaf3ba8b (t := (2, 2, 0)) hk0 (by decide) rfl rfl hm.1 dX11_worthBy_5 ?_
      refine jj_bipush (v := 6) C dX11_worthBy_8 (by decide) ?_
      refine rl_lald C hok (t := (1, (-9223372036854775808), 9223372036854775807)) hkw (by decide) rfl (k := 6) (v := (f 6)) (vp_in_iff.mpr (by decide)) hC (by decide) rfl dX11_worthBy_10 ?_
      refine jj_lcmp_ge (tgt := 74) C dX11_worthBy_11 dX11_worthBy_12 (by decide) (fun c_7 => ?_) (fun c_7 => ?_)
      · have z_c_7 := jc_leL (a := (f 6).toInt) (b := ((k_2 : Nat) : Int)) c_7 rfl (rl_tl (by omega))
        refine jj_lconst (v := 0) C dX11_worthBy_74 (by decide) ?_
        refine jj_lstore_n C dX11_worthBy_75 (by decide) rfl ?_
        refine jj_iconst (v := 0) C dX11_worthBy_76 (by decide) ?_
        refine jj_istore C dX11_worthBy_77 (by decide) rfl ?_
        have hL_8 : ∀ (N : Nat) (pl : va_W) (k_9 : Nat) (y_10 : Int64) (g_11 : Nat → Int64), True → tt_ok rt_tk cA Kd pl → tt_fr Kd [] pl0 pl → tt_fa Kd [11, 12] pl0 pl → rl_m pl h0 aw aa at0 ai af ap → tt_at pl h0 22 (.ref au) → tt_lc pl aw f → tt_lc pl au g_11 → rl_UL f g_11 k_9 → (0 : Int) ≤ (k_9 : Int) → (k_9 : Int) ≤ 40 → (2147483648 - (k_9 : Int) ≤ (N : Int)) → jj_J p l e (jj_rm 4 103 0 0) s m args below meth c 6 A (vx_MQ below (jj_q D A (tt_O (fun rx pl1 r => rx = [] ∧ tt_ok rt_tk cA Kd pl1 ∧ tt_fr Kd [] pl0 pl1 ∧ tt_fa Kd [11, 12] pl0 pl1 ∧ ((∃ v : Int64, r = some (.long v)))))) (jj_x D A (tt_OX (fun _ _ _ => False))) args s 0 0 A) (jj_X D A ([] ++ pl)) 0 0 79 [(5, .int (nI k_9)), (3, .long y_10), (0, .ref h0), (1, .int p1), (2, .int p2)] [] := by
          intro NL_8
          induction NL_8 with
          | zero => intro pl k_9 y_10 g_11 _ hok hfr hfa hm hf_12 hC hC_13 hD_14 lk_9 uk_9 hNL_8; exfalso; omega
          | succ NL_8 ihL_8 =>
            intro pl k_9 y_10 g_11 _ hok hfr hfa hm hf_12 hC hC_13 hD_14 lk_9 uk_9 hNL_8
            replace ihL_8 := fun pl k_9 y_10 g_11 h1 => ihL_8 pl k_9 y_10 g_11 trivial h1
            refine jj_iload C dX11_worthBy_79 rfl ?_
            refine jj_i2l C dX11_worthBy_81 rfl ?_
            refine jj_aload_n C dX11_worthBy_82 rfl ?_
            refine tt_getF C hok jk_12 0 (by decide) jw_34eaf3ba8b (t := (2, 2, 0)) hk0 (by decide) rfl rfl hm.1 dX11_worthBy_83 ?_
            refine jj_bipush (v := 7) C dX11_worthBy_86 (by decide) ?_
            refine rl_lald C hok (t := (1, (-9223372036854775808), 9223372036854775807)) hkw (by decide) rfl (k := 7) (v := (f 7)) (vp_in_iff.mpr (by decide)) hC (by decide) rfl dX11_worthBy_88 ?_
            refine jj_lcmp_ge (tgt := 129) C dX11_worthBy_89 dX11_worthBy_90 (by decide) (fun c_15 => ?_) (fun c_15 => ?_)
            · have z_c_15 := jc_leL (a := (f 7).toInt) (b := ((k_9 : Nat) : Int)) c_15 rfl (rl_tl (by omega))
              refine jj_lload_n C dX11_worthBy_129 rfl ?_
              exact jj_lret C ⟨[], pl, rfl, rfl, hok, hfr, hfa, ⟨y_10, rfl⟩⟩ dX11_worthBy_130 (jj_le rfl) (jj_le rfl)
            · have z_c_15 := jc_nleL (a := (f 7).toInt) (b := ((k_9 : Nat) : Int)) c_15 rfl (rl_tl (by omega))
              refine jj_aload_n C dX11_worthBy_93 rfl ?_
              refine tt_getF C hok jk_12 0 (by decide) jw_34eaf3ba8b (t := (2, 2, 0)) hk0 (by decide) rfl rfl hm.1 dX11_worthBy_94 ?_
              refine jj_iload C dX11_worthBy_97 rfl ?_
              refine tt_call0S (rest := [.ref aw]) C (rn_lotAt hl D cA ak k_9 (46 + 6 * k_9) (by omega)) jw_4c8c4b88e2 jw_0fa3e2bccb jw_f96c99f44d jw_d540d98a1c jn_X11_lotAt rfl (jj_le rfl) (jj_le rfl) (jj_le rfl) (jj_le rfl) (jj_le rfl) dX11_worthBy_99 rfl (fun w1 r hO => ?_)
              obtain ⟨-, rfl⟩ := hO
              refine jj_iconst (v := 0) C dX11_worthBy_102 (by decide) ?_
              refine jj_iadd (v := nI (46 + 6 * k_9)) C dX11_worthBy_103 (rl_addR (kn := 0) (by decide) (by omega)) ?_
              refine rl_lald C hok (t := (1, (-9223372036854775808), 9223372036854775807)) hkw (by decide) rfl (k := 46 + 6 * k_9) (v := (f (46 + 6 * k_9))) (vp_in_nI (by omega) (by decide)) hC (nI_clamp (by omega)) rfl dX11_worthBy_104 ?_
              refine jj_iload_n C dX11_worthBy_105 rfl ?_
              obtain ⟨y_16, ey_16, vy_16⟩ := tt_i2l p1
              refine jj_i2l (v := y_16) C dX11_worthBy_106 ey_16 ?_
              refine jj_lcmp_ne (tgt := 123) C dX11_worthBy_107 dX11_worthBy_108 (by decide) (fun c_17 => ?_) (fun c_17 => ?_)
              · have z_c_17 := jc_neqL (a := (f (46 + 6 * k_9)).toInt) (b := y_16.toInt) c_17 rfl rfl
                refine jj_iinc (v := nI (1 + k_9)) C dX11_worthBy_123 rfl (rl_addR (kn := 1) (by decide) (by omega)) (by decide) rfl ?_
                refine jj_goto (tgt := 79) C dX11_worthBy_126 (by decide) ?_
                exact ihL_8 pl (1 + k_9) y_10 g_11 hok hfr hfa hm hf_12 hC hC_13 (hD_14.skip hI (by unfold rnL; omega)) (by first | omega | decide | exact tt_lo _ | exact tt_hi _) (by first | omega | decide | exact tt_lo _ | exact tt_hi _) (by first | omega | decide | exact tt_lo _ | exact tt_hi _)
              · have z_c_17 := jc_eqL (a := (f (46 + 6 * k_9)).toInt) (b := y_16.toInt) c_17 rfl rfl
                refine jj_lload_n C dX11_worthBy_111 rfl ?_
                refine jj_aload_n C dX11_worthBy_112 rfl ?_
                refine jj_iload C dX11_worthBy_113 rfl ?_
                refine tt_call0S (rest := [.ref h0, .long y_10]) C (rn_lotAt hl D cA ak k_9 (46 + 6 * k_9) (by omega)) jw_4c8c4b88e2 jw_0fa3e2bccb jw_f96c99f44d jw_d540d98a1c jn_X11_lotAt rfl (jj_le rfl) (jj_le rfl) (jj_le rfl) (jj_le rfl) (jj_le rfl) dX11_worthBy_115 rfl (fun w1 r hO => ?_)
                obtain ⟨-, rfl⟩ := hO
                obtain ⟨qc, gs, hqc⟩ := tt_recv (cx := []) hok hk0 (by decide) rfl
                refine tt_callV (rest := [.long y_10]) C (rs_usedUp hl D cA ak au g_11 k_9 B f hk0 hkw hka hkt hki hkf hkp hku (by unfold rnL; omega) hI hP (hD_14.has hI (by unfold rnL; omega)) hok hm hC hf_12 hC_13) [] [] rfl rfl (by decide) (by decide) (by decide) qc hqc rfl rfl jw_a5c3cf770b jw_8a51dbbccb jw_2ee7f39845 jw_f96c99f44d jw_903a26b408 jn_X11_usedUp rfl (jj_le rfl) (jj_le rfl) (jj_le rfl) (jj_le rfl) (jj_le rfl) dX11_worthBy_118 rfl (fun _ _ _ hX => hX.elim) (fun rx pl_18 r O_22 => ?_)
                obtain ⟨rfl, hok_19, hr_20, ha_21, hR_23⟩ := O_22
                replace hf_12 := hr_20.at hk0 (by decide) (by decide) hf_12
                replace hC := ha_21.at hkw (by decide) (by decide) hC
                replace hm := hm.fr hr_20 hk0 rfl
                replace hfr := hfr.trans (hr_20.sub (by decide))
                replace hfa := hfa.trans (ha_21.sub (by decide))
                obtain ⟨g_24, hC_25, hq_26, y_27, rfl⟩ := hR_23
                refine jj_ladd C dX11_worthBy_121 rfl ?_
                refine jj_lstore_n C dX11_worthBy_122 (by decide) rfl ?_
                refine jj_iinc (v := nI (1 + k_9)) C dX11_worthBy_123 rfl (rl_addR (kn := 1) (by decide) (by omega)) (by decide) rfl ?_
                refine jj_goto (tgt := 79) C dX11_worthBy_126 (by decide) ?_
                exact ihL_8 pl_18 (1 + k_9) (y_10 + y_27) g_24 hok_19 hfr hfa hm hf_12 hC hC_25 (hD_14.use hI (by unfold rnL; omega) hq_26) (by first | omega | decide | exact tt_lo _ | exact tt_hi _) (by first | omega | decide | exact tt_lo _ | exact tt_hi _) (by first | omega | decide | exact tt_lo _ | exact tt_hi _)
        exact hL_8 _ pl 0 (0 : Int64) g_3 trivial hok hfr hfa hm hf_4 hC hC_5 (rl_UL.init (fun a ha => hD_6 a (by unfold rnS at ha; omega))) (by first | omega | decide | exact tt_lo _ | exact tt_hi _) (by first | omega | decide | exact tt_lo _ | exact tt_hi _) (Int.self_le_toNat _)
      · have z_c_7 := jc_nleL (a := (f 6).toInt) (b := ((k_2 : Nat) : Int)) c_7 rfl (rl_tl (by omega))
        refine jj_aload_n C dX11_worthBy_15 rfl ?_
        refine tt_get C hok jk_12 21 (by decide) jw_0571619de0 (t := (2, 11, 0)) hk0 (by decide) rfl rfl dX11_worthBy_16 (fun v_28 hv_28 hf_29 => ?_)
        obtain ⟨a_30, rfl, ka_30⟩ := tt_vr hv_28
        refine jj_iload_n C dX11_worthBy_19 rfl ?_
        refine jj_aload_n C dX11_worthBy_20 rfl ?_
        refine tt_getF C hok jk_12 0 (by decide) jw_34eaf3ba8b (t := (2, 2, 0)) hk0 (by decide) rfl rfl hm.1 dX11_worthBy_21 ?_
        refine jj_iload_n C dX11_worthBy_24 rfl ?_
        refine tt_call0S (rest := [.ref aw, .int (nI k_2), .ref a_30]) C (rn_seriesAt hl D cA ak k_2 (16 + 5 * k_2) (by omega)) jw_6251557f40 jw_b2cd40a13f jw_f96c99f44d jw_6245231363 jn_X11_seriesAt rfl (jj_le rfl) (jj_le rfl) (jj_le rfl) (jj_le rfl) (jj_le rfl) dX11_worthBy_25 rfl (fun w1 r hO => ?_)
        obtain ⟨-, rfl⟩ := hO
        refine jj_iconst (v := 2) C dX11_worthBy_28 (by decide) ?_
        refine jj_iadd (v := nI (18 + 5 * k_2)) C dX11_worthBy_29 (rl_addR (kn := 2) (by decide) (by omega)) ?_
        refine rl_lald C hok (t := (1, (-9223372036854775808), 9223372036854775807)) hkw (by decide) rfl (k := 18 + 5 * k_2) (v := (f (18 + 5 * k_2))) (vp_in_nI (by omega) (by decide)) hC (nI_clamp (by omega)) rfl dX11_worthBy_30 ?_
        refine jj_aload_n C dX11_worthBy_31 rfl ?_
        refine tt_getF C hok jk_12 0 (by decide) jw_34eaf3ba8b (t := (2, 2, 0)) hk0 (by decide) rfl rfl hm.1 dX11_worthBy_32 ?_
        refine jj_iload_n C dX11_worthBy_35 rfl ?_
        refine tt_call0S (rest := [.ref aw, .long (f (18 + 5 * k_2)), .int (nI k_2), .ref a_30]) C (rn_seriesAt hl D cA ak k_2 (16 + 5 * k_2) (by omega)) jw_6251557f40 jw_b2cd40a13f jw_f96c99f44d jw_6245231363 jn_X11_seriesAt rfl (jj_le rfl) (jj_le rfl) (jj_le rfl) (jj_le rfl) (jj_le rfl) dX11_worthBy_36 rfl (fun w1 r hO => ?_)
        obtain ⟨-, rfl⟩ := hO
        refine jj_iconst (v := 2) C dX11_worthBy_39 (by decide) ?_
        refine jj_iadd (v := nI (18 + 5 * k_2)) C dX11_worthBy_40 (rl_addR (kn := 2) (by decide) (by omega)) ?_
        refine rl_lald C hok (t := (1, (-9223372036854775808), 9223372036854775807)) hkw (by decide) rfl (k := 18 + 5 * k_2) (v := (f (18 + 5 * k_2))) (vp_in_nI (by omega) (by decide)) hC (nI_clamp (by omega)) rfl dX11_worthBy_41 ?_
        refine jj_iload_n C dX11_worthBy_42 rfl ?_
        obtain ⟨y_31, ey_31, vy_31⟩ := tt_i2l p2
        refine jj_i2l (v := y_31) C dX11_worthBy_43 ey_31 ?_
        refine jj_lmul C dX11_worthBy_44 rfl ?_
        refine jj_ldc2 (v := 10000) C dX11_worthBy_45 jw_d680bb70d7 ?_
        refine jj_ldiv C dX11_worthBy_48 (by decide) rfl ?_
        refine jj_ladd C dX11_worthBy_49 rfl ?_
        refine rl_last C hok (t := (1, (-9223372036854775808), 9223372036854775807)) ka_30 (by decide) rfl (k := k_2) (vp_in_nI (by omega) (by decide)) (tt_ja _) (nI_clamp (by omega)) dX11_worthBy_50 (fun pl_32 hok_33 tr tl tw => ?_)
        replace hf_4 := tr _ _ _ hf_4
        replace hf_29 := tr _ _ _ hf_29
        replace hm := hm.arr tr
        replace hfr := hfr.arr tr
        replace hC := tl _ _ (tt_ne hkw ka_30 (by decide)) hC
        replace hC_5 := tl _ _ (tt_ne hku ka_30 (by decide)) hC_5
        replace hfa := hfa.wr ka_30 tl (by decide)
        refine jj_aload_n C dX11_worthBy_51 rfl ?_
        refine tt_getF C hok_33 jk_12 22 (by decide) jw_24c56b223b (t := (2, 12, 0)) hk0 (by decide) rfl rfl hf_4 dX11_worthBy_52 ?_
        refine jj_iload_n C dX11_worthBy_55 rfl ?_
        refine jj_aload_n C dX11_worthBy_56 rfl ?_
        refine tt_getF C hok_33 jk_12 0 (by decide) jw_34eaf3ba8b (t := (2, 2, 0)) hk0 (by decide) rfl rfl hm.1 dX11_worthBy_57 ?_
        refine jj_iload_n C dX11_worthBy_60 rfl ?_
        refine tt_call0S (rest := [.ref aw, .int (nI k_2), .ref au]) C (rn_seriesAt hl D cA ak k_2 (16 + 5 * k_2) (by omega)) jw_6251557f40 jw_b2cd40a13f jw_f96c99f44d jw_6245231363 jn_X11_seriesAt rfl (jj_le rfl) (jj_le rfl) (jj_le rfl) (jj_le rfl) (jj_le rfl) dX11_worthBy_61 rfl (fun w1 r hO => ?_)
        obtain ⟨-, rfl⟩ := hO
        refine jj_iconst (v := 3) C dX11_worthBy_64 (by decide) ?_
        refine jj_iadd (v := nI (19 + 5 * k_2)) C dX11_worthBy_65 (rl_addR (kn := 3) (by decide) (by omega)) ?_
        refine rl_lald C hok_33 (t := (1, (-9223372036854775808), 9223372036854775807)) hkw (by decide) rfl (k := 19 + 5 * k_2) (v := (f (19 + 5 * k_2))) (vp_in_nI (by omega) (by decide)) hC (nI_clamp (by omega)) rfl dX11_worthBy_66 ?_
        refine rl_last C hok_33 (t := (1, (-9223372036854775808), 9223372036854775807)) hku (by decide) rfl (k := k_2) (vp_in_nI (by omega) (by decide)) (tt_ja _) (nI_clamp (by omega)) dX11_worthBy_67 (fun pl_34 hok_35 tr tl tw => ?_)
        replace hf_4 := tr _ _ _ hf_4
        replace hf_29 := tr _ _ _ hf_29
        replace hm := hm.arr tr
        replace hfr := hfr.arr tr
        replace hC := tl _ _ (tt_ne hkw hku (by decide)) hC
        replace hC_5 := tw _ hC_5
        replace hfa := hfa.wr hku tl (by decide)
        refine jj_iinc (v := nI (1 + k_2)) C dX11_worthBy_68 rfl (rl_addR (kn := 1) (by decide) (by omega)) (by decide) rfl ?_
        refine jj_goto (tgt := 2) C dX11_worthBy_71 (by decide) ?_
        exact ihL_1 pl_34 (1 + k_2) (vp_updL g_3 k_2 (f (19 + 5 * k_2))) hok_35 hfr hfa hm hf_4 hC hC_5 (rl_fill hD_6) (by first | omega | decide | exact tt_lo _ | exact tt_hi _) (by first | omega | decide | exact tt_lo _ | exact tt_hi _) (by first | omega | decide | exact tt_lo _ | exact tt_hi _)
  exact hL_1 _ pl0 0 fu trivial hok hfr hfa hm hu22 hC huc (fun a ha => absurd ha (Nat.not_lt_zero _)) (by first | omega | decide | exact tt_lo _ | exact tt_hi _) (by first | omega | decide | exact tt_lo _ | exact tt_hi _) (Int.self_le_toNat _)

set_option maxHeartbeats 4000000 in
set_option maxRecDepth 100000 in
theorem rs_rateFor {l : Launch} (hl : l.stackTraces = false) (D : va_G) (cA : Nat → ClassId) (ak : (Nat → Nat) × (Nat → Nat)) {Kd : Nat → Nat} {h0 aw aa at0 ai af ap : Nat} (n6 : Nat) (p1 : Int32) (p2 : Int64) (B C9 : Int) (f P : Nat → Int64) (hk0 : Kd h0 = 1) (hkw : Kd aw = 2) (hka : Kd aa = 3) (hkt : Kd at0 = 4) (hki : Kd ai = 5) (hkf : Kd af = 6) (hkp : Kd ap = 7) (ln6 : (0 : Int) ≤ (n6 : Int)) (un6 : (n6 : Int) ≤ 10) (hK : rl_K B C9 f) (hHP : rl_HP B C9 P n6) (hB5 : B ≤ 43520000000) (hB0 : 12760000000 ≤ B) (hC9 : 0 ≤ C9 ∧ C9 ≤ 4000000000000000000) {pl0 : va_W} (hok : tt_ok rt_tk cA Kd pl0) (hm : rl_m pl0 h0 aw aa at0 ai af ap) (hC : tt_lc pl0 aw f) (hCp : tt_lc pl0 ap P) (hs6 : tt_at pl0 h0 6 (.int (nI n6))) : jj_M l D cA ak yX11_rateFor (.code yX11_rateFor cX11_rateFor 5 (some .int)) 5 128 0 0 ([] ++ pl0) [.ref h0, .int p1, .long p2] (tt_O (fun rx pl1 r => rx = [] ∧ tt_ok rt_tk cA Kd pl1 ∧ tt_fr Kd [(1, 7)] pl0 pl1 ∧ tt_fa Kd [11, 12] pl0 pl1 ∧ ((rl_M (B + 30000000) (C9 + 2000) pl1 h0 aw ap ∧ ∃ v : Int32, r = some (.int v))))) (tt_OX (fun _ _ _ => False)) := by
  refine jj_start hl (by decide) jw_628ae85f1b (jj_le rfl) ?_
  intro p e s m args below meth c A hargs hA C hex hmn
  have hfr := tt_fr.refl (K := Kd) (WS := [(1, 7)]) pl0
  have hfa := tt_fa.refl (K := Kd) (WA := [11, 12]) pl0
  have hI := hK.1
  have hP := hK.2.1
  have hH := hI.1.1
  obtain ⟨⟨g0a, g0b⟩, ⟨g1a, g1b⟩, ⟨g6a, g6b⟩, ⟨g7a, g7b⟩, ⟨g8a, g8b⟩⟩ := hH
  have hB : B ≤ 43920000000 := by omega
  have hB6 : B + 360000000 ≤ 43920000000 := by omega
  have h9a := hK.2.2.1
  have h9b := hK.2.2.2
  have h9 : 0 ≤ (f 9).toInt ∧ (f 9).toInt < 4611686018427387000 := ⟨h9a, by omega⟩
  have lp1 := tt_lo p1
  have up1 := tt_hi p1
  refine jj_aload_n C dX11_rateFor_0 rfl ?_
  refine jj_iload_n C dX11_rateFor_1 rfl ?_
  obtain ⟨qc, gs, hqc⟩ := tt_recv (cx := []) hok hk0 (by decide) rfl
  refine tt_callV (rest := []) C (rc_X11_isNoInvestor_d8d95c hl D cA ak p1 _ hk0 hkw hka hkt hki hkf hkp ⟨⟨g0a, g0b⟩, ⟨g1a, g1b⟩, ⟨g6a, g6b⟩, ⟨g7a, g7b⟩, ⟨g8a, g8b⟩⟩ hok hm hC) [] [] rfl rfl (by decide) (by decide) (by decide) qc hqc rfl rfl jw_daecd531da jw_4e28b3e206 jw_f3a40b16e4 jw_f96c99f44d jw_78c857bdda jn_X11_isNoInvestor rfl (jj_le rfl) (jj_le rfl) (jj_le rfl) (jj_le rfl) (jj_le rfl) dX11_rateFor_2 rfl (fun _ _ _ hX => hX.elim) (fun rx pl_1 r O_5 => ?_)
  obtain ⟨rfl, hok_2, hr_3, ha_4, hR_6⟩ := O_5
  replace hs6 := hr_3.at hk0 (by decide) (by decide) hs6
  replace hC := ha_4.at hkw (by decide) (by decide) hC
  replace hCp := ha_4.at hkp (by decide) (by decide) hCp
  replace hm := hm.fr hr_3 hk0 rfl
  replace hfr := hfr.trans (hr_3.sub (by decide))
  replace hfa := hfa.trans (ha_4.sub (by decide))
  rcases hR_6 with rfl | ⟨l_7, u_8, rfl⟩
  · refine jj_if_eqF (tgt := 10) C dX11_rateFor_5 (by decide) (by decide) ?_
    refine jj_iconst (v := 0) C dX11_rateFor_8 (by decide) ?_
    exact jj_iret C ⟨[], pl_1, rfl, rfl, hok_2, hfr, hfa, ⟨⟨_, _, n6, hC, hCp, hs6, (by omega), (hK.mono (by omega) (by omega)), hHP.mono (by omega) (by omega)⟩, (0 : Int32), rfl⟩⟩ dX11_rateFor_9 (jj_le rfl) (jj_le rfl)
  · refine jj_if_eqT (tgt := 10) C dX11_rateFor_5 (by decide) (by decide) ?_
    refine jj_sipush (v := (-9000)) C dX11_rateFor_10 (by decide) ?_
    refine jj_istore C dX11_rateFor_13 (by decide) rfl ?_
    have hL_9 : ∀ (N : Nat) (pl : va_W) (x_10 : Int32), True → tt_ok rt_tk cA Kd pl → tt_fr Kd [(1, 7)] pl0 pl → tt_fa Kd [11, 12] pl0 pl → rl_m pl h0 aw aa at0 ai af ap → tt_at pl h0 6 (.int (nI n6)) → tt_lc pl aw f → tt_lc pl ap P → (-9000 : Int) ≤ x_10.toInt → x_10.toInt ≤ 2147483647 → (2147483648 - x_10.toInt ≤ (N : Int)) → jj_J p l e (jj_rm 5 128 0 0) s m args below meth c 5 A (vx_MQ below (jj_q D A (tt_O (fun rx pl1 r => rx = [] ∧ tt_ok rt_tk cA Kd pl1 ∧ tt_fr Kd [(1, 7)] pl0 pl1 ∧ tt_fa Kd [11, 12] pl0 pl1 ∧ ((rl_M (B + 30000000) (C9 + 2000) pl1 h0 aw ap ∧ ∃ v : Int32, r = some (.int v)))))) (jj_x D A (tt_OX (fun _ _ _ => False))) args s 0 0 A) (jj_X D A ([] ++ pl)) 0 0 15 [(4, .int x_10), (0, .ref h0), (1, .int p1), (2, .long p2)] [] := by
      intro NL_9
      induction NL_9 with
      | zero => intro pl x_10 _ hok hfr hfa hm hf_11 hC hCp lx_10 ux_10 hNL_9; exfalso; omega
      | succ NL_9 ihL_9 =>
        intro pl x_10 _ hok hfr hfa hm hf_11 hC hCp lx_10 ux_10 hNL_9
        replace ihL_9 := fun pl x_10 h1 => ihL_9 pl x_10 trivial h1
        refine jj_iload C dX11_rateFor_15 rfl ?_
        refine jj_sipush (v := 9999) C dX11_rateFor_17 (by decide) ?_
        refine jj_icmp_gt (tgt := 44) C dX11_rateFor_20 (by decide) (fun c_12 => ?_) (fun c_12 => ?_)
        · have z_c_12 := jc_lt (a := 9999) (b := x_10.toInt) c_12 (by decide) rfl
          refine jj_aload_n C dX11_rateFor_44 rfl ?_
          refine jj_iconst (v := 2) C dX11_rateFor_45 (by decide) ?_
          obtain ⟨qc, gs, hqc⟩ := tt_recv (cx := []) hok hk0 (by decide) rfl
          refine tt_callV (rest := []) C (rc_X11_no_9c0c2f hl D cA ak hk0 hkw hka hkt hki hkf hkp hok hm) [] [] rfl rfl (by decide) (by decide) (by decide) qc hqc rfl rfl jw_d1b9c9bc08 jw_0a7e47b48e jw_ae3979bf43 jw_f96c99f44d jw_db0108e47b jn_X11_no rfl (jj_le rfl) (jj_le rfl) (jj_le rfl) (jj_le rfl) (jj_le rfl) dX11_rateFor_46 rfl (fun _ _ _ hX => hX.elim) (fun rx pl_13 r O_17 => ?_)
          obtain ⟨rfl, hok_14, hr_15, ha_16, hR_18⟩ := O_17
          replace hf_11 := hr_15.at hk0 (by decide) (by decide) hf_11
          replace hC := ha_16.at hkw (by decide) (by decide) hC
          replace hCp := ha_16.at hkp (by decide) (by decide) hCp
          replace hm := hm.fr hr_15 hk0 rfl
          replace hfr := hfr.trans (hr_15.sub (by decide))
          replace hfa := hfa.trans (ha_16.sub (by decide))
          obtain rfl := hR_18
          exact jj_iret C ⟨[], pl_13, rfl, rfl, hok_14, hfr, hfa, ⟨⟨_, _, n6, hC, hCp, hf_11, (by omega), (hK.mono (by omega) (by omega)), hHP.mono (by omega) (by omega)⟩, (0 : Int32), rfl⟩⟩ dX11_rateFor_49 (jj_le rfl) (jj_le rfl)
        · have z_c_12 := jc_nlt (a := 9999) (b := x_10.toInt) c_12 (by decide) rfl
          refine jj_aload_n C dX11_rateFor_23 rfl ?_
          refine jj_iload_n C dX11_rateFor_24 rfl ?_
          refine jj_iload C dX11_rateFor_25 rfl ?_
          obtain ⟨qc, gs, hqc⟩ := tt_recv (cx := []) hok hk0 (by decide) rfl
          refine tt_callV (rest := []) C (rs_worthBy hl D cA ak p1 x_10 B f hk0 hkw hka hkt hki hkf hkp hI hP hok hm hC) [] [] rfl rfl (by decide) (by decide) (by decide) qc hqc rfl rfl jw_da6e46c2f8 jw_8fa0d84a27 jw_d3c4ac7ed6 jw_f96c99f44d jw_9eaf9a2ff0 jn_X11_worthBy rfl (jj_le rfl) (jj_le rfl) (jj_le rfl) (jj_le rfl) (jj_le rfl) dX11_rateFor_27 rfl (fun _ _ _ hX => hX.elim) (fun rx pl_19 r O_23 => ?_)
          obtain ⟨rfl, hok_20, hr_21, ha_22, hR_24⟩ := O_23
          replace hf_11 := hr_21.at hk0 (by decide) (by decide) hf_11
          replace hC := ha_22.at hkw (by decide) (by decide) hC
          replace hCp := ha_22.at hkp (by decide) (by decide) hCp
          replace hm := hm.fr hr_21 hk0 rfl
          replace hfr := hfr.trans (hr_21.sub (by decide))
          replace hfa := hfa.trans (ha_22.sub (by decide))
          obtain ⟨y_25, rfl⟩ := hR_24
          refine jj_lload_n C dX11_rateFor_30 rfl ?_
          refine jj_lcmp_lt (tgt := 38) C dX11_rateFor_31 dX11_rateFor_32 (by decide) (fun c_26 => ?_) (fun c_26 => ?_)
          · have z_c_26 := jc_ltL (a := y_25.toInt) (b := p2.toInt) c_26 rfl rfl
            obtain ⟨x_27, ex_27, vx_27⟩ := tt_inc (x := x_10) (n := 1) (by omega) (by omega)
            refine jj_iinc (v := x_27) C dX11_rateFor_38 rfl ex_27 (by decide) rfl ?_
            refine jj_goto (tgt := 15) C dX11_rateFor_41 (by decide) ?_
            exact ihL_9 pl_19 x_27 hok_20 hfr hfa hm hf_11 hC hCp (by first | omega | decide | exact tt_lo _ | exact tt_hi _) (by first | omega | decide | exact tt_lo _ | exact tt_hi _) (by first | omega | decide | exact tt_lo _ | exact tt_hi _)
          · have z_c_26 := jc_nltL (a := y_25.toInt) (b := p2.toInt) c_26 rfl rfl
            refine jj_iload C dX11_rateFor_35 rfl ?_
            exact jj_iret C ⟨[], pl_19, rfl, rfl, hok_20, hfr, hfa, ⟨⟨_, _, n6, hC, hCp, hf_11, (by omega), (hK.mono (by omega) (by omega)), hHP.mono (by omega) (by omega)⟩, x_10, rfl⟩⟩ dX11_rateFor_37 (jj_le rfl) (jj_le rfl)
    exact hL_9 _ pl_1 ((-9000) : Int32) trivial hok_2 hfr hfa hm hs6 hC hCp (by first | omega | decide | exact tt_lo _ | exact tt_hi _) (by first | omega | decide | exact tt_lo _ | exact tt_hi _) (Int.self_le_toNat _)

set_option maxHeartbeats 4000000 in
set_option maxRecDepth 100000 in
theorem rs_print {l : Launch} (hl : l.stackTraces = false) (D : va_G) (cA : Nat → ClassId) (ak : (Nat → Nat) × (Nat → Nat)) {Kd : Nat → Nat} {h0 aw aa at0 ai af ap : Nat} (n24 : Nat) (p1 : Int32) (hk0 : Kd h0 = 1) (hkw : Kd aw = 2) (hka : Kd aa = 3) (hkt : Kd at0 = 4) (hki : Kd ai = 5) (hkf : Kd af = 6) (hkp : Kd ap = 7) (ln24 : (0 : Int) ≤ (n24 : Int)) (un24 : (n24 : Int) ≤ 2399) {pl0 : va_W} (hok : tt_ok rt_tk cA Kd pl0) (hm : rl_m pl0 h0 aw aa at0 ai af ap) (hs24 : tt_at pl0 h0 24 (.int (nI n24))) : jj_M l D cA ak yX11_print (.code yX11_print cX11_print 2 none) 0 0 0 0 ([] ++ pl0) [.ref h0, .int p1] (tt_O (fun rx pl1 r => rx = [] ∧ tt_ok rt_tk cA Kd pl1 ∧ tt_fr Kd [(1, 24)] pl0 pl1 ∧ tt_fa Kd [13] pl0 pl1 ∧ ((∃ m : Nat, tt_at pl1 h0 24 (.int (nI m)) ∧ n24 ≤ m ∧ m ≤ n24 + 1 ∧ r = none)))) (tt_OX (fun _ _ _ => False)) := by
  refine jj_start hl (by decide) jw_b7d8894a18 (jj_le rfl) ?_
  intro p e s m args below meth c A hargs hA C hex hmn
  have hfr := tt_fr.refl (K := Kd) (WS := [(1, 24)]) pl0
  have hfa := tt_fa.refl (K := Kd) (WA := [13]) pl0
  have lp1 := tt_lo p1
  have up1 := tt_hi p1
  refine jj_aload_n C dX11_print_0 rfl ?_
  refine tt_get C hok jk_12 23 (by decide) jw_31f1259aa4 (t := (2, 13, 0)) hk0 (by decide) rfl rfl dX11_print_1 (fun v_1 hv_1 hf_2 => ?_)
  obtain ⟨a_3, rfl, ka_3⟩ := tt_vr hv_1
  refine jj_aload_n C dX11_print_4 rfl ?_
  refine tt_getF C hok jk_12 24 (by decide) jw_51c009b58c (t := (0, 0, 2400)) hk0 (by decide) rfl rfl hs24 dX11_print_5 ?_
  refine jj_iload_n C dX11_print_8 rfl ?_
  obtain ⟨x_4, ex_4⟩ : ∃ z : Int32, p1.toInt8.toInt32 = z := ⟨_, rfl⟩
  refine jj_i2b (v := x_4) C dX11_print_9 ex_4 ?_
  refine rl_bast C hok (t := (0, (-2147483648), 2147483647)) ka_3 (by decide) rfl (vp_in_nI (by omega) (by decide)) (tt_ia _) dX11_print_10 (fun pl_5 hok_6 tr tl tw => ?_)
  replace hs24 := tr _ _ _ hs24
  replace hf_2 := tr _ _ _ hf_2
  replace hm := hm.arr tr
  replace hfr := hfr.arr tr
  replace hfa := hfa.wr ka_3 tl (by decide)
  refine jj_aload_n C dX11_print_11 rfl ?_
  refine jj_dup C dX11_print_12 rfl ?_
  refine tt_getF C hok_6 jk_12 24 (by decide) jw_51c009b58c (t := (0, 0, 2400)) hk0 (by decide) rfl rfl hs24 dX11_print_13 ?_
  refine jj_iconst (v := 1) C dX11_print_16 (by decide) ?_
  refine jj_iadd (v := nI (1 + n24)) C dX11_print_17 (rl_addR (kn := 1) (by decide) (by omega)) ?_
  refine rl_put C hok_6 jk_12 24 (by decide) jw_51c009b58c (t := (0, 0, 2400)) hk0 (by decide) rfl rfl rfl (rl_iv (by omega) (by omega)) rfl rfl dX11_print_18 (fun pl_7 hok_8 tr hn tl => ?_)
  replace hf_2 := tr _ _ _ (Or.inr (by decide)) hf_2
  have hf_9 := hn
  replace hm := hm.put tr (by decide)
  replace hfr := hfr.put hk0 tr (by decide)
  replace hfa := hfa.all tl
  exact jj_vret C ⟨[], pl_7, rfl, rfl, hok_8, hfr, hfa, ⟨(1 + n24), hf_9, (by omega), (by omega), rfl⟩⟩ dX11_print_21 (jj_le rfl) (jj_le rfl)

set_option maxHeartbeats 4000000 in
set_option maxRecDepth 100000 in
theorem rs_printWord_day {l : Launch} (hl : l.stackTraces = false) (D : va_G) (cA : Nat → ClassId) (ak : (Nat → Nat) × (Nat → Nat)) {Kd : Nat → Nat} {h0 aw aa at0 ai af ap : Nat} (n24 : Nat) (hk0 : Kd h0 = 1) (hkw : Kd aw = 2) (hka : Kd aa = 3) (hkt : Kd at0 = 4) (hki : Kd ai = 5) (hkf : Kd af = 6) (hkp : Kd ap = 7) (ln24 : (0 : Int) ≤ (n24 : Int)) (un24 : (n24 : Int) ≤ 2396) {pl0 : va_W} (hok : tt_ok rt_tk cA Kd pl0) (hm : rl_m pl0 h0 aw aa at0 ai af ap) (hs24 : tt_at pl0 h0 24 (.int (nI n24))) : jj_M l D cA ak yX11_printWord (.code yX11_printWord cX11_printWord 3 none) 4 85 0 0 ([] ++ pl0) [.ref h0, .ref (ak.1 33)] (tt_O (fun rx pl1 r => rx = [] ∧ tt_ok rt_tk cA Kd pl1 ∧ tt_fr Kd [(1, 24)] pl0 pl1 ∧ tt_fa Kd [13] pl0 pl1 ∧ ((∃ m : Nat, tt_at pl1 h0 24 (.int (nI m)) ∧ n24 ≤ m ∧ m ≤ n24 + 4 ∧ r = none)))) (tt_OX (fun _ _ _ => False)) := by
  refine jj_start hl (by decide) jw_b4eaee752c (jj_le rfl) ?_
  intro p e s m args below meth c A hargs hA C hex hmn
  have hfr := tt_fr.refl (K := Kd) (WS := [(1, 24)]) pl0
  have hfa := tt_fa.refl (K := Kd) (WA := [13]) pl0
  refine jj_iconst (v := 0) C dX11_printWord_0 (by decide) ?_
  refine jj_istore_n C dX11_printWord_1 (by decide) rfl ?_
  refine jj_iload_n C dX11_printWord_2 rfl ?_
  refine jj_aload_n C dX11_printWord_3 rfl ?_
  refine tt_call0Vs (rest := [.int 0]) C (ct_J0_length_8abf5_s1 hl D cA ak) 33 (by decide) rfl jw_b95c722318 jw_b1ce304435 jw_d08f03a22e jw_4ea6285965 jw_bbc7045666 jn_J0_length_8abf5 rfl (jj_le rfl) (jj_le rfl) (jj_le rfl) (jj_le rfl) (jj_le rfl) dX11_printWord_4 rfl (fun w1 r O_1 => ?_)
  obtain ⟨-, rfl⟩ := O_1
  refine jj_icmp_geF (tgt := 25) C dX11_printWord_7 (by decide) (by decide) ?_
  refine jj_aload_n C dX11_printWord_10 rfl ?_
  refine jj_aload_n C dX11_printWord_11 rfl ?_
  refine jj_iload_n C dX11_printWord_12 rfl ?_
  refine tt_call0Vs (rest := [.ref h0]) C (ct_J0_charAt_5068e_s1 hl D cA ak) 33 (by decide) rfl jw_0b21ef6890 jw_acb9174fef jw_675efe837b jw_4ea6285965 jw_391c0f56bd jn_J0_charAt_5068e rfl (jj_le rfl) (jj_le rfl) (jj_le rfl) (jj_le rfl) (jj_le rfl) dX11_printWord_13 rfl (fun w1 r O_2 => ?_)
  obtain ⟨-, rfl⟩ := O_2
  obtain ⟨qc, gs, hqc⟩ := tt_recv (cx := []) hok hk0 (by decide) rfl
  refine tt_callV (rest := []) C (rs_print hl D cA ak n24 (100 : Int32) hk0 hkw hka hkt hki hkf hkp (by first | omega | decide) (by first | omega | decide) hok hm hs24) [] [] rfl rfl (by decide) (by decide) (by decide) qc hqc rfl rfl jw_5467bceb3b jw_6617e6021e jw_7548414167 jw_f96c99f44d jw_b7d8894a18 jn_X11_print rfl (jj_le rfl) (jj_le rfl) (jj_le rfl) (jj_le rfl) (jj_le rfl) dX11_printWord_16 rfl (fun _ _ _ hX => hX.elim) (fun rx pl_3 r O_7 => ?_)
  obtain ⟨rfl, hok_4, hr_5, ha_6, hR_8⟩ := O_7
  replace hm := hm.fr hr_5 hk0 rfl
  replace hfr := hfr.trans (hr_5.sub (by decide))
  replace hfa := hfa.trans (ha_6.sub (by decide))
  obtain ⟨n_9, hf_10, ln_9, un_9, rfl⟩ := hR_8
  refine jj_iinc (v := 1) C dX11_printWord_19 rfl (by decide) (by decide) rfl ?_
  refine jj_goto (tgt := 2) C dX11_printWord_22 (by decide) ?_
  refine jj_iload_n C dX11_printWord_2 rfl ?_
  refine jj_aload_n C dX11_printWord_3 rfl ?_
  refine tt_call0Vs (rest := [.int 1]) C (ct_J0_length_8abf5_s1 hl D cA ak) 33 (by decide) rfl jw_b95c722318 jw_b1ce304435 jw_d08f03a22e jw_4ea6285965 jw_bbc7045666 jn_J0_length_8abf5 rfl (jj_le rfl) (jj_le rfl) (jj_le rfl) (jj_le rfl) (jj_le rfl) dX11_printWord_4 rfl (fun w1 r O_11 => ?_)
  obtain ⟨-, rfl⟩ := O_11
  refine jj_icmp_geF (tgt := 25) C dX11_printWord_7 (by decide) (by decide) ?_
  refine jj_aload_n C dX11_printWord_10 rfl ?_
  refine jj_aload_n C dX11_printWord_11 rfl ?_
  refine jj_iload_n C dX11_printWord_12 rfl ?_
  refine tt_call0Vs (rest := [.ref h0]) C (ct_J0_charAt_5068e_s2 hl D cA ak) 33 (by decide) rfl jw_0b21ef6890 jw_acb9174fef jw_675efe837b jw_4ea6285965 jw_391c0f56bd jn_J0_charAt_5068e rfl (jj_le rfl) (jj_le rfl) (jj_le rfl) (jj_le rfl) (jj_le rfl) dX11_printWord_13 rfl (fun w1 r O_12 => ?_)
  obtain ⟨-, rfl⟩ := O_12
  obtain ⟨qc, gs, hqc⟩ := tt_recv (cx := []) hok_4 hk0 (by decide) rfl
  refine tt_callV (rest := []) C (rs_print hl D cA ak n_9 (97 : Int32) hk0 hkw hka hkt hki hkf hkp (by first | omega | decide) (by first | omega | decide) hok_4 hm hf_10) [] [] rfl rfl (by decide) (by decide) (by decide) qc hqc rfl rfl jw_5467bceb3b jw_6617e6021e jw_7548414167 jw_f96c99f44d jw_b7d8894a18 jn_X11_print rfl (jj_le rfl) (jj_le rfl) (jj_le rfl) (jj_le rfl) (jj_le rfl) dX11_printWord_16 rfl (fun _ _ _ hX => hX.elim) (fun rx pl_13 r O_17 => ?_)
  obtain ⟨rfl, hok_14, hr_15, ha_16, hR_18⟩ := O_17
  replace hm := hm.fr hr_15 hk0 rfl
  replace hfr := hfr.trans (hr_15.sub (by decide))
  replace hfa := hfa.trans (ha_16.sub (by decide))
  obtain ⟨n_19, hf_20, ln_19, un_19, rfl⟩ := hR_18
  refine jj_iinc (v := 2) C dX11_printWord_19 rfl (by decide) (by decide) rfl ?_
  refine jj_goto (tgt := 2) C dX11_printWord_22 (by decide) ?_
  refine jj_iload_n C dX11_printWord_2 rfl ?_
  refine jj_aload_n C dX11_printWord_3 rfl ?_
  refine tt_call0Vs (rest := [.int 2]) C (ct_J0_length_8abf5_s1 hl D cA ak) 33 (by decide) rfl jw_b95c722318 jw_b1ce304435 jw_d08f03a22e jw_4ea6285965 jw_bbc7045666 jn_J0_length_8abf5 rfl (jj_le rfl) (jj_le rfl) (jj_le rfl) (jj_le rfl) (jj_le rfl) dX11_printWord_4 rfl (fun w1 r O_21 => ?_)
  obtain ⟨-, rfl⟩ := O_21
  refine jj_icmp_geF (tgt := 25) C dX11_printWord_7 (by decide) (by decide) ?_
  refine jj_aload_n C dX11_printWord_10 rfl ?_
  refine jj_aload_n C dX11_printWord_11 rfl ?_
  refine jj_iload_n C dX11_printWord_12 rfl ?_
  refine tt_call0Vs (rest := [.ref h0]) C (ct_J0_charAt_5068e_s3 hl D cA ak) 33 (by decide) rfl jw_0b21ef6890 jw_acb9174fef jw_675efe837b jw_4ea6285965 jw_391c0f56bd jn_J0_charAt_5068e rfl (jj_le rfl) (jj_le rfl) (jj_le rfl) (jj_le rfl) (jj_le rfl) dX11_printWord_13 rfl (fun w1 r O_22 => ?_)
  obtain ⟨-, rfl⟩ := O_22
  obtain ⟨qc, gs, hqc⟩ := tt_recv (cx := []) hok_14 hk0 (by decide) rfl
  refine tt_callV (rest := []) C (rs_print hl D cA ak n_19 (121 : Int32) hk0 hkw hka hkt hki hkf hkp (by first | omega | decide) (by first | omega | decide) hok_14 hm hf_20) [] [] rfl rfl (by decide) (by decide) (by decide) qc hqc rfl rfl jw_5467bceb3b jw_6617e6021e jw_7548414167 jw_f96c99f44d jw_b7d8894a18 jn_X11_print rfl (jj_le rfl) (jj_le rfl) (jj_le rfl) (jj_le rfl) (jj_le rfl) dX11_printWord_16 rfl (fun _ _ _ hX => hX.elim) (fun rx pl_23 r O_27 => ?_)
  obtain ⟨rfl, hok_24, hr_25, ha_26, hR_28⟩ := O_27
  replace hm := hm.fr hr_25 hk0 rfl
  replace hfr := hfr.trans (hr_25.sub (by decide))
  replace hfa := hfa.trans (ha_26.sub (by decide))
  obtain ⟨n_29, hf_30, ln_29, un_29, rfl⟩ := hR_28
  refine jj_iinc (v := 3) C dX11_printWord_19 rfl (by decide) (by decide) rfl ?_
  refine jj_goto (tgt := 2) C dX11_printWord_22 (by decide) ?_
  refine jj_iload_n C dX11_printWord_2 rfl ?_
  refine jj_aload_n C dX11_printWord_3 rfl ?_
  refine tt_call0Vs (rest := [.int 3]) C (ct_J0_length_8abf5_s1 hl D cA ak) 33 (by decide) rfl jw_b95c722318 jw_b1ce304435 jw_d08f03a22e jw_4ea6285965 jw_bbc7045666 jn_J0_length_8abf5 rfl (jj_le rfl) (jj_le rfl) (jj_le rfl) (jj_le rfl) (jj_le rfl) dX11_printWord_4 rfl (fun w1 r O_31 => ?_)
  obtain ⟨-, rfl⟩ := O_31
  refine jj_icmp_geF (tgt := 25) C dX11_printWord_7 (by decide) (by decide) ?_
  refine jj_aload_n C dX11_printWord_10 rfl ?_
  refine jj_aload_n C dX11_printWord_11 rfl ?_
  refine jj_iload_n C dX11_printWord_12 rfl ?_
  refine tt_call0Vs (rest := [.ref h0]) C (ct_J0_charAt_5068e_s4 hl D cA ak) 33 (by decide) rfl jw_0b21ef6890 jw_acb9174fef jw_675efe837b jw_4ea6285965 jw_391c0f56bd jn_J0_charAt_5068e rfl (jj_le rfl) (jj_le rfl) (jj_le rfl) (jj_le rfl) (jj_le rfl) dX11_printWord_13 rfl (fun w1 r O_32 => ?_)
  obtain ⟨-, rfl⟩ := O_32
  obtain ⟨qc, gs, hqc⟩ := tt_recv (cx := []) hok_24 hk0 (by decide) rfl
  refine tt_callV (rest := []) C (rs_print hl D cA ak n_29 (32 : Int32) hk0 hkw hka hkt hki hkf hkp (by first | omega | decide) (by first | omega | decide) hok_24 hm hf_30) [] [] rfl rfl (by decide) (by decide) (by decide) qc hqc rfl rfl jw_5467bceb3b jw_6617e6021e jw_7548414167 jw_f96c99f44d jw_b7d8894a18 jn_X11_print rfl (jj_le rfl) (jj_le rfl) (jj_le rfl) (jj_le rfl) (jj_le rfl) dX11_printWord_16 rfl (fun _ _ _ hX => hX.elim) (fun rx pl_33 r O_37 => ?_)
  obtain ⟨rfl, hok_34, hr_35, ha_36, hR_38⟩ := O_37
  replace hm := hm.fr hr_35 hk0 rfl
  replace hfr := hfr.trans (hr_35.sub (by decide))
  replace hfa := hfa.trans (ha_36.sub (by decide))
  obtain ⟨n_39, hf_40, ln_39, un_39, rfl⟩ := hR_38
  refine jj_iinc (v := 4) C dX11_printWord_19 rfl (by decide) (by decide) rfl ?_
  refine jj_goto (tgt := 2) C dX11_printWord_22 (by decide) ?_
  refine jj_iload_n C dX11_printWord_2 rfl ?_
  refine jj_aload_n C dX11_printWord_3 rfl ?_
  refine tt_call0Vs (rest := [.int 4]) C (ct_J0_length_8abf5_s1 hl D cA ak) 33 (by decide) rfl jw_b95c722318 jw_b1ce304435 jw_d08f03a22e jw_4ea6285965 jw_bbc7045666 jn_J0_length_8abf5 rfl (jj_le rfl) (jj_le rfl) (jj_le rfl) (jj_le rfl) (jj_le rfl) dX11_printWord_4 rfl (fun w1 r O_41 => ?_)
  obtain ⟨-, rfl⟩ := O_41
  refine jj_icmp_geT (tgt := 25) C dX11_printWord_7 (by decide) (by decide) ?_
  exact jj_vret C ⟨[], pl_33, rfl, rfl, hok_34, hfr, hfa, ⟨n_39, hf_40, (by omega), (by omega), rfl⟩⟩ dX11_printWord_25 (jj_le rfl) (jj_le rfl)

set_option maxHeartbeats 4000000 in
set_option maxRecDepth 100000 in
theorem rs_printWord_assets {l : Launch} (hl : l.stackTraces = false) (D : va_G) (cA : Nat → ClassId) (ak : (Nat → Nat) × (Nat → Nat)) {Kd : Nat → Nat} {h0 aw aa at0 ai af ap : Nat} (n24 : Nat) (hk0 : Kd h0 = 1) (hkw : Kd aw = 2) (hka : Kd aa = 3) (hkt : Kd at0 = 4) (hki : Kd ai = 5) (hkf : Kd af = 6) (hkp : Kd ap = 7) (ln24 : (0 : Int) ≤ (n24 : Int)) (un24 : (n24 : Int) ≤ 2392) {pl0 : va_W} (hok : tt_ok rt_tk cA Kd pl0) (hm : rl_m pl0 h0 aw aa at0 ai af ap) (hs24 : tt_at pl0 h0 24 (.int (nI n24))) : jj_M l D cA ak yX11_printWord (.code yX11_printWord cX11_printWord 3 none) 4 85 0 0 ([] ++ pl0) [.ref h0, .ref (ak.1 34)] (tt_O (fun rx pl1 r => rx = [] ∧ tt_ok rt_tk cA Kd pl1 ∧ tt_fr Kd [(1, 24)] pl0 pl1 ∧ tt_fa Kd [13] pl0 pl1 ∧ ((∃ m : Nat, tt_at pl1 h0 24 (.int (nI m)) ∧ n24 ≤ m ∧ m ≤ n24 + 8 ∧ r = none)))) (tt_OX (fun _ _ _ => False)) := by
  refine jj_start hl (by decide) jw_b4eaee752c (jj_le rfl) ?_
  intro p e s m args below meth c A hargs hA C hex hmn
  have hfr := tt_fr.refl (K := Kd) (WS := [(1, 24)]) pl0
  have hfa := tt_fa.refl (K := Kd) (WA := [13]) pl0
  refine jj_iconst (v := 0) C dX11_printWord_0 (by decide) ?_
  refine jj_istore_n C dX11_printWord_1 (by decide) rfl ?_
  refine jj_iload_n C dX11_printWord_2 rfl ?_
  refine jj_aload_n C dX11_printWord_3 rfl ?_
  refine tt_call0Vs (rest := [.int 0]) C (ct_J0_length_8abf5_s2 hl D cA ak) 34 (by decide) rfl jw_b95c722318 jw_b1ce304435 jw_d08f03a22e jw_4ea6285965 jw_bbc7045666 jn_J0_length_8abf5 rfl (jj_le rfl) (jj_le rfl) (jj_le rfl) (jj_le rfl) (jj_le rfl) dX11_printWord_4 rfl (fun w1 r O_1 => ?_)
  obtain ⟨-, rfl⟩ := O_1
  refine jj_icmp_geF (tgt := 25) C dX11_printWord_7 (by decide) (by decide) ?_
  refine jj_aload_n C dX11_printWord_10 rfl ?_
  refine jj_aload_n C dX11_printWord_11 rfl ?_
  refine jj_iload_n C dX11_printWord_12 rfl ?_
  refine tt_call0Vs (rest := [.ref h0]) C (ct_J0_charAt_5068e_s5 hl D cA ak) 34 (by decide) rfl jw_0b21ef6890 jw_acb9174fef jw_675efe837b jw_4ea6285965 jw_391c0f56bd jn_J0_charAt_5068e rfl (jj_le rfl) (jj_le rfl) (jj_le rfl) (jj_le rfl) (jj_le rfl) dX11_printWord_13 rfl (fun w1 r O_2 => ?_)
  obtain ⟨-, rfl⟩ := O_2
  obtain ⟨qc, gs, hqc⟩ := tt_recv (cx := []) hok hk0 (by decide) rfl
  refine tt_callV (rest := []) C (rs_print hl D cA ak n24 (32 : Int32) hk0 hkw hka hkt hki hkf hkp (by first | omega | decide) (by first | omega | decide) hok hm hs24) [] [] rfl rfl (by decide) (by decide) (by decide) qc hqc rfl rfl jw_5467bceb3b jw_6617e6021e jw_7548414167 jw_f96c99f44d jw_b7d8894a18 jn_X11_print rfl (jj_le rfl) (jj_le rfl) (jj_le rfl) (jj_le rfl) (jj_le rfl) dX11_printWord_16 rfl (fun _ _ _ hX => hX.elim) (fun rx pl_3 r O_7 => ?_)
  obtain ⟨rfl, hok_4, hr_5, ha_6, hR_8⟩ := O_7
  replace hm := hm.fr hr_5 hk0 rfl
  replace hfr := hfr.trans (hr_5.sub (by decide))
  replace hfa := hfa.trans (ha_6.sub (by decide))
  obtain ⟨n_9, hf_10, ln_9, un_9, rfl⟩ := hR_8
  refine jj_iinc (v := 1) C dX11_printWord_19 rfl (by decide) (by decide) rfl ?_
  refine jj_goto (tgt := 2) C dX11_printWord_22 (by decide) ?_
  refine jj_iload_n C dX11_printWord_2 rfl ?_
  refine jj_aload_n C dX11_printWord_3 rfl ?_
  refine tt_call0Vs (rest := [.int 1]) C (ct_J0_length_8abf5_s2 hl D cA ak) 34 (by decide) rfl jw_b95c722318 jw_b1ce304435 jw_d08f03a22e jw_4ea6285965 jw_bbc7045666 jn_J0_length_8abf5 rfl (jj_le rfl) (jj_le rfl) (jj_le rfl) (jj_le rfl) (jj_le rfl) dX11_printWord_4 rfl (fun w1 r O_11 => ?_)
  obtain ⟨-, rfl⟩ := O_11
  refine jj_icmp_geF (tgt := 25) C dX11_printWord_7 (by decide) (by decide) ?_
  refine jj_aload_n C dX11_printWord_10 rfl ?_
  refine jj_aload_n C dX11_printWord_11 rfl ?_
  refine jj_iload_n C dX11_printWord_12 rfl ?_
  refine tt_call0Vs (rest := [.ref h0]) C (ct_J0_charAt_5068e_s6 hl D cA ak) 34 (by decide) rfl jw_0b21ef6890 jw_acb9174fef jw_675efe837b jw_4ea6285965 jw_391c0f56bd jn_J0_charAt_5068e rfl (jj_le rfl) (jj_le rfl) (jj_le rfl) (jj_le rfl) (jj_le rfl) dX11_printWord_13 rfl (fun w1 r O_12 => ?_)
  obtain ⟨-, rfl⟩ := O_12
  obtain ⟨qc, gs, hqc⟩ := tt_recv (cx := []) hok_4 hk0 (by decide) rfl
  refine tt_callV (rest := []) C (rs_print hl D cA ak n_9 (97 : Int32) hk0 hkw hka hkt hki hkf hkp (by first | omega | decide) (by first | omega | decide) hok_4 hm hf_10) [] [] rfl rfl (by decide) (by decide) (by decide) qc hqc rfl rfl jw_5467bceb3b jw_6617e6021e jw_7548414167 jw_f96c99f44d jw_b7d8894a18 jn_X11_print rfl (jj_le rfl) (jj_le rfl) (jj_le rfl) (jj_le rfl) (jj_le rfl) dX11_printWord_16 rfl (fun _ _ _ hX => hX.elim) (fun rx pl_13 r O_17 => ?_)
  obtain ⟨rfl, hok_14, hr_15, ha_16, hR_18⟩ := O_17
  replace hm := hm.fr hr_15 hk0 rfl
  replace hfr := hfr.trans (hr_15.sub (by decide))
  replace hfa := hfa.trans (ha_16.sub (by decide))
  obtain ⟨n_19, hf_20, ln_19, un_19, rfl⟩ := hR_18
  refine jj_iinc (v := 2) C dX11_printWord_19 rfl (by decide) (by decide) rfl ?_
  refine jj_goto (tgt := 2) C dX11_printWord_22 (by decide) ?_
  refine jj_iload_n C dX11_printWord_2 rfl ?_
  refine jj_aload_n C dX11_printWord_3 rfl ?_
  refine tt_call0Vs (rest := [.int 2]) C (ct_J0_length_8abf5_s2 hl D cA ak) 34 (by decide) rfl jw_b95c722318 jw_b1ce304435 jw_d08f03a22e jw_4ea6285965 jw_bbc7045666 jn_J0_length_8abf5 rfl (jj_le rfl) (jj_le rfl) (jj_le rfl) (jj_le rfl) (jj_le rfl) dX11_printWord_4 rfl (fun w1 r O_21 => ?_)
  obtain ⟨-, rfl⟩ := O_21
  refine jj_icmp_geF (tgt := 25) C dX11_printWord_7 (by decide) (by decide) ?_
  refine jj_aload_n C dX11_printWord_10 rfl ?_
  refine jj_aload_n C dX11_printWord_11 rfl ?_
  refine jj_iload_n C dX11_printWord_12 rfl ?_
  refine tt_call0Vs (rest := [.ref h0]) C (ct_J0_charAt_5068e_s7 hl D cA ak) 34 (by decide) rfl jw_0b21ef6890 jw_acb9174fef jw_675efe837b jw_4ea6285965 jw_391c0f56bd jn_J0_charAt_5068e rfl (jj_le rfl) (jj_le rfl) (jj_le rfl) (jj_le rfl) (jj_le rfl) dX11_printWord_13 rfl (fun w1 r O_22 => ?_)
  obtain ⟨-, rfl⟩ := O_22
  obtain ⟨qc, gs, hqc⟩ := tt_recv (cx := []) hok_14 hk0 (by decide) rfl
  refine tt_callV (rest := []) C (rs_print hl D cA ak n_19 (115 : Int32) hk0 hkw hka hkt hki hkf hkp (by first | omega | decide) (by first | omega | decide) hok_14 hm hf_20) [] [] rfl rfl (by decide) (by decide) (by decide) qc hqc rfl rfl jw_5467bceb3b jw_6617e6021e jw_7548414167 jw_f96c99f44d jw_b7d8894a18 jn_X11_print rfl (jj_le rfl) (jj_le rfl) (jj_le rfl) (jj_le rfl) (jj_le rfl) dX11_printWord_16 rfl (fun _ _ _ hX => hX.elim) (fun rx pl_23 r O_27 => ?_)
  obtain ⟨rfl, hok_24, hr_25, ha_26, hR_28⟩ := O_27
  replace hm := hm.fr hr_25 hk0 rfl
  replace hfr := hfr.trans (hr_25.sub (by decide))
  replace hfa := hfa.trans (ha_26.sub (by decide))
  obtain ⟨n_29, hf_30, ln_29, un_29, rfl⟩ := hR_28
  refine jj_iinc (v := 3) C dX11_printWord_19 rfl (by decide) (by decide) rfl ?_
  refine jj_goto (tgt := 2) C dX11_printWord_22 (by decide) ?_
  refine jj_iload_n C dX11_printWord_2 rfl ?_
  refine jj_aload_n C dX11_printWord_3 rfl ?_
  refine tt_call0Vs (rest := [.int 3]) C (ct_J0_length_8abf5_s2 hl D cA ak) 34 (by decide) rfl jw_b95c722318 jw_b1ce304435 jw_d08f03a22e jw_4ea6285965 jw_bbc7045666 jn_J0_length_8abf5 rfl (jj_le rfl) (jj_le rfl) (jj_le rfl) (jj_le rfl) (jj_le rfl) dX11_printWord_4 rfl (fun w1 r O_31 => ?_)
  obtain ⟨-, rfl⟩ := O_31
  refine jj_icmp_geF (tgt := 25) C dX11_printWord_7 (by decide) (by decide) ?_
  refine jj_aload_n C dX11_printWord_10 rfl ?_
  refine jj_aload_n C dX11_printWord_11 rfl ?_
  refine jj_iload_n C dX11_printWord_12 rfl ?_
  refine tt_call0Vs (rest := [.ref h0]) C (ct_J0_charAt_5068e_s8 hl D cA ak) 34 (by decide) rfl jw_0b21ef6890 jw_acb9174fef jw_675efe837b jw_4ea6285965 jw_391c0f56bd jn_J0_charAt_5068e rfl (jj_le rfl) (jj_le rfl) (jj_le rfl) (jj_le rfl) (jj_le rfl) dX11_printWord_13 rfl (fun w1 r O_32 => ?_)
  obtain ⟨-, rfl⟩ := O_32
  obtain ⟨qc, gs, hqc⟩ := tt_recv (cx := []) hok_24 hk0 (by decide) rfl
  refine tt_callV (rest := []) C (rs_print hl D cA ak n_29 (115 : Int32) hk0 hkw hka hkt hki hkf hkp (by first | omega | decide) (by first | omega | decide) hok_24 hm hf_30) [] [] rfl rfl (by decide) (by decide) (by decide) qc hqc rfl rfl jw_5467bceb3b jw_6617e6021e jw_7548414167 jw_f96c99f44d jw_b7d8894a18 jn_X11_print rfl (jj_le rfl) (jj_le rfl) (jj_le rfl) (jj_le rfl) (jj_le rfl) dX11_printWord_16 rfl (fun _ _ _ hX => hX.elim) (fun rx pl_33 r O_37 => ?_)
  obtain ⟨rfl, hok_34, hr_35, ha_36, hR_38⟩ := O_37
  replace hm := hm.fr hr_35 hk0 rfl
  replace hfr := hfr.trans (hr_35.sub (by decide))
  replace hfa := hfa.trans (ha_36.sub (by decide))
  obtain ⟨n_39, hf_40, ln_39, un_39, rfl⟩ := hR_38
  refine jj_iinc (v := 4) C dX11_printWord_19 rfl (by decide) (by decide) rfl ?_
  refine jj_goto (tgt := 2) C dX11_printWord_22 (by decide) ?_
  refine jj_iload_n C dX11_printWord_2 rfl ?_
  refine jj_aload_n C dX11_printWord_3 rfl ?_
  refine tt_call0Vs (rest := [.int 4]) C (ct_J0_length_8abf5_s2 hl D cA ak) 34 (by decide) rfl jw_b95c722318 jw_b1ce304435 jw_d08f03a22e jw_4ea6285965 jw_bbc7045666 jn_J0_length_8abf5 rfl (jj_le rfl) (jj_le rfl) (jj_le rfl) (jj_le rfl) (jj_le rfl) dX11_printWord_4 rfl (fun w1 r O_41 => ?_)
  obtain ⟨-, rfl⟩ := O_41
  refine jj_icmp_geF (tgt := 25) C dX11_printWord_7 (by decide) (by decide) ?_
  refine jj_aload_n C dX11_printWord_10 rfl ?_
  refine jj_aload_n C dX11_printWord_11 rfl ?_
  refine jj_iload_n C dX11_printWord_12 rfl ?_
  refine tt_call0Vs (rest := [.ref h0]) C (ct_J0_charAt_5068e_s9 hl D cA ak) 34 (by decide) rfl jw_0b21ef6890 jw_acb9174fef jw_675efe837b jw_4ea6285965 jw_391c0f56bd jn_J0_charAt_5068e rfl (jj_le rfl) (jj_le rfl) (jj_le rfl) (jj_le rfl) (jj_le rfl) dX11_printWord_13 rfl (fun w1 r O_42 => ?_)
  obtain ⟨-, rfl⟩ := O_42
  obtain ⟨qc, gs, hqc⟩ := tt_recv (cx := []) hok_34 hk0 (by decide) rfl
  refine tt_callV (rest := []) C (rs_print hl D cA ak n_39 (101 : Int32) hk0 hkw hka hkt hki hkf hkp (by first | omega | decide) (by first | omega | decide) hok_34 hm hf_40) [] [] rfl rfl (by decide) (by decide) (by decide) qc hqc rfl rfl jw_5467bceb3b jw_6617e6021e jw_7548414167 jw_f96c99f44d jw_b7d8894a18 jn_X11_print rfl (jj_le rfl) (jj_le rfl) (jj_le rfl) (jj_le rfl) (jj_le rfl) dX11_printWord_16 rfl (fun _ _ _ hX => hX.elim) (fun rx pl_43 r O_47 => ?_)
  obtain ⟨rfl, hok_44, hr_45, ha_46, hR_48⟩ := O_47
  replace hm := hm.fr hr_45 hk0 rfl
  replace hfr := hfr.trans (hr_45.sub (by decide))
  replace hfa := hfa.trans (ha_46.sub (by decide))
  obtain ⟨n_49, hf_50, ln_49, un_49, rfl⟩ := hR_48
  refine jj_iinc (v := 5) C dX11_printWord_19 rfl (by decide) (by decide) rfl ?_
  refine jj_goto (tgt := 2) C dX11_printWord_22 (by decide) ?_
  refine jj_iload_n C dX11_printWord_2 rfl ?_
  refine jj_aload_n C dX11_printWord_3 rfl ?_
  refine tt_call0Vs (rest := [.int 5]) C (ct_J0_length_8abf5_s2 hl D cA ak) 34 (by decide) rfl jw_b95c722318 jw_b1ce304435 jw_d08f03a22e jw_4ea6285965 jw_bbc7045666 jn_J0_length_8abf5 rfl (jj_le rfl) (jj_le rfl) (jj_le rfl) (jj_le rfl) (jj_le rfl) dX11_printWord_4 rfl (fun w1 r O_51 => ?_)
  obtain ⟨-, rfl⟩ := O_51
  refine jj_icmp_geF (tgt := 25) C dX11_printWord_7 (by decide) (by decide) ?_
  refine jj_aload_n C dX11_printWord_10 rfl ?_
  refine jj_aload_n C dX11_printWord_11 rfl ?_
  refine jj_iload_n C dX11_printWord_12 rfl ?_
  refine tt_call0Vs (rest := [.ref h0]) C (ct_J0_charAt_5068e_s10 hl D cA ak) 34 (by decide) rfl jw_0b21ef6890 jw_acb9174fef jw_675efe837b jw_4ea6285965 jw_391c0f56bd jn_J0_charAt_5068e rfl (jj_le rfl) (jj_le rfl) (jj_le rfl) (jj_le rfl) (jj_le rfl) dX11_printWord_13 rfl (fun w1 r O_52 => ?_)
  obtain ⟨-, rfl⟩ := O_52
  obtain ⟨qc, gs, hqc⟩ := tt_recv (cx := []) hok_44 hk0 (by decide) rfl
  refine tt_callV (rest := []) C (rs_print hl D cA ak n_49 (116 : Int32) hk0 hkw hka hkt hki hkf hkp (by first | omega | decide) (by first | omega | decide) hok_44 hm hf_50) [] [] rfl rfl (by decide) (by decide) (by decide) qc hqc rfl rfl jw_5467bceb3b jw_6617e6021e jw_7548414167 jw_f96c99f44d jw_b7d8894a18 jn_X11_print rfl (jj_le rfl) (jj_le rfl) (jj_le rfl) (jj_le rfl) (jj_le rfl) dX11_printWord_16 rfl (fun _ _ _ hX => hX.elim) (fun rx pl_53 r O_57 => ?_)
  obtain ⟨rfl, hok_54, hr_55, ha_56, hR_58⟩ := O_57
  replace hm := hm.fr hr_55 hk0 rfl
  replace hfr := hfr.trans (hr_55.sub (by decide))
  replace hfa := hfa.trans (ha_56.sub (by decide))
  obtain ⟨n_59, hf_60, ln_59, un_59, rfl⟩ := hR_58
  refine jj_iinc (v := 6) C dX11_printWord_19 rfl (by decide) (by decide) rfl ?_
  refine jj_goto (tgt := 2) C dX11_printWord_22 (by decide) ?_
  refine jj_iload_n C dX11_printWord_2 rfl ?_
  refine jj_aload_n C dX11_printWord_3 rfl ?_
  refine tt_call0Vs (rest := [.int 6]) C (ct_J0_length_8abf5_s2 hl D cA ak) 34 (by decide) rfl jw_b95c722318 jw_b1ce304435 jw_d08f03a22e jw_4ea6285965 jw_bbc7045666 jn_J0_length_8abf5 rfl (jj_le rfl) (jj_le rfl) (jj_le rfl) (jj_le rfl) (jj_le rfl) dX11_printWord_4 rfl (fun w1 r O_61 => ?_)
  obtain ⟨-, rfl⟩ := O_61
  refine jj_icmp_geF (tgt := 25) C dX11_printWord_7 (by decide) (by decide) ?_
  refine jj_aload_n C dX11_printWord_10 rfl ?_
  refine jj_aload_n C dX11_printWord_11 rfl ?_
  refine jj_iload_n C dX11_printWord_12 rfl ?_
  refine tt_call0Vs (rest := [.ref h0]) C (ct_J0_charAt_5068e_s11 hl D cA ak) 34 (by decide) rfl jw_0b21ef6890 jw_acb9174fef jw_675efe837b jw_4ea6285965 jw_391c0f56bd jn_J0_charAt_5068e rfl (jj_le rfl) (jj_le rfl) (jj_le rfl) (jj_le rfl) (jj_le rfl) dX11_printWord_13 rfl (fun w1 r O_62 => ?_)
  obtain ⟨-, rfl⟩ := O_62
  obtain ⟨qc, gs, hqc⟩ := tt_recv (cx := []) hok_54 hk0 (by decide) rfl
  refine tt_callV (rest := []) C (rs_print hl D cA ak n_59 (115 : Int32) hk0 hkw hka hkt hki hkf hkp (by first | omega | decide) (by first | omega | decide) hok_54 hm hf_60) [] [] rfl rfl (by decide) (by decide) (by decide) qc hqc rfl rfl jw_5467bceb3b jw_6617e6021e jw_7548414167 jw_f96c99f44d jw_b7d8894a18 jn_X11_print rfl (jj_le rfl) (jj_le rfl) (jj_le rfl) (jj_le rfl) (jj_le rfl) dX11_printWord_16 rfl (fun _ _ _ hX => hX.elim) (fun rx pl_63 r O_67 => ?_)
  obtain ⟨rfl, hok_64, hr_65, ha_66, hR_68⟩ := O_67
  replace hm := hm.fr hr_65 hk0 rfl
  replace hfr := hfr.trans (hr_65.sub (by decide))
  replace hfa := hfa.trans (ha_66.sub (by decide))
  obtain ⟨n_69, hf_70, ln_69, un_69, rfl⟩ := hR_68
  refine jj_iinc (v := 7) C dX11_printWord_19 rfl (by decide) (by decide) rfl ?_
  refine jj_goto (tgt := 2) C dX11_printWord_22 (by decide) ?_
  refine jj_iload_n C dX11_printWord_2 rfl ?_
  refine jj_aload_n C dX11_printWord_3 rfl ?_
  refine tt_call0Vs (rest := [.int 7]) C (ct_J0_length_8abf5_s2 hl D cA ak) 34 (by decide) rfl jw_b95c722318 jw_b1ce304435 jw_d08f03a22e jw_4ea6285965 jw_bbc7045666 jn_J0_length_8abf5 rfl (jj_le rfl) (jj_le rfl) (jj_le rfl) (jj_le rfl) (jj_le rfl) dX11_printWord_4 rfl (fun w1 r O_71 => ?_)
  obtain ⟨-, rfl⟩ := O_71
  refine jj_icmp_geF (tgt := 25) C dX11_printWord_7 (by decide) (by decide) ?_
  refine jj_aload_n C dX11_printWord_10 rfl ?_
  refine jj_aload_n C dX11_printWord_11 rfl ?_
  refine jj_iload_n C dX11_printWord_12 rfl ?_
  refine tt_call0Vs (rest := [.ref h0]) C (ct_J0_charAt_5068e_s12 hl D cA ak) 34 (by decide) rfl jw_0b21ef6890 jw_acb9174fef jw_675efe837b jw_4ea6285965 jw_391c0f56bd jn_J0_charAt_5068e rfl (jj_le rfl) (jj_le rfl) (jj_le rfl) (jj_le rfl) (jj_le rfl) dX11_printWord_13 rfl (fun w1 r O_72 => ?_)
  obtain ⟨-, rfl⟩ := O_72
  obtain ⟨qc, gs, hqc⟩ := tt_recv (cx := []) hok_64 hk0 (by decide) rfl
  refine tt_callV (rest := []) C (rs_print hl D cA ak n_69 (32 : Int32) hk0 hkw hka hkt hki hkf hkp (by first | omega | decide) (by first | omega | decide) hok_64 hm hf_70) [] [] rfl rfl (by decide) (by decide) (by decide) qc hqc rfl rfl jw_5467bceb3b jw_6617e6021e jw_7548414167 jw_f96c99f44d jw_b7d8894a18 jn_X11_print rfl (jj_le rfl) (jj_le rfl) (jj_le rfl) (jj_le rfl) (jj_le rfl) dX11_printWord_16 rfl (fun _ _ _ hX => hX.elim) (fun rx pl_73 r O_77 => ?_)
  obtain ⟨rfl, hok_74, hr_75, ha_76, hR_78⟩ := O_77
  replace hm := hm.fr hr_75 hk0 rfl
  replace hfr := hfr.trans (hr_75.sub (by decide))
  replace hfa := hfa.trans (ha_76.sub (by decide))
  obtain ⟨n_79, hf_80, ln_79, un_79, rfl⟩ := hR_78
  refine jj_iinc (v := 8) C dX11_printWord_19 rfl (by decide) (by decide) rfl ?_
  refine jj_goto (tgt := 2) C dX11_printWord_22 (by decide) ?_
  refine jj_iload_n C dX11_printWord_2 rfl ?_
  refine jj_aload_n C dX11_printWord_3 rfl ?_
  refine tt_call0Vs (rest := [.int 8]) C (ct_J0_length_8abf5_s2 hl D cA ak) 34 (by decide) rfl jw_b95c722318 jw_b1ce304435 jw_d08f03a22e jw_4ea6285965 jw_bbc7045666 jn_J0_length_8abf5 rfl (jj_le rfl) (jj_le rfl) (jj_le rfl) (jj_le rfl) (jj_le rfl) dX11_printWord_4 rfl (fun w1 r O_81 => ?_)
  obtain ⟨-, rfl⟩ := O_81
  refine jj_icmp_geT (tgt := 25) C dX11_printWord_7 (by decide) (by decide) ?_
  exact jj_vret C ⟨[], pl_73, rfl, rfl, hok_74, hfr, hfa, ⟨n_79, hf_80, (by omega), (by omega), rfl⟩⟩ dX11_printWord_25 (jj_le rfl) (jj_le rfl)

set_option maxHeartbeats 4000000 in
set_option maxRecDepth 100000 in
theorem rs_printWord_series {l : Launch} (hl : l.stackTraces = false) (D : va_G) (cA : Nat → ClassId) (ak : (Nat → Nat) × (Nat → Nat)) {Kd : Nat → Nat} {h0 aw aa at0 ai af ap : Nat} (n24 : Nat) (hk0 : Kd h0 = 1) (hkw : Kd aw = 2) (hka : Kd aa = 3) (hkt : Kd at0 = 4) (hki : Kd ai = 5) (hkf : Kd af = 6) (hkp : Kd ap = 7) (ln24 : (0 : Int) ≤ (n24 : Int)) (un24 : (n24 : Int) ≤ 2393) {pl0 : va_W} (hok : tt_ok rt_tk cA Kd pl0) (hm : rl_m pl0 h0 aw aa at0 ai af ap) (hs24 : tt_at pl0 h0 24 (.int (nI n24))) : jj_M l D cA ak yX11_printWord (.code yX11_printWord cX11_printWord 3 none) 4 85 0 0 ([] ++ pl0) [.ref h0, .ref (ak.1 35)] (tt_O (fun rx pl1 r => rx = [] ∧ tt_ok rt_tk cA Kd pl1 ∧ tt_fr Kd [(1, 24)] pl0 pl1 ∧ tt_fa Kd [13] pl0 pl1 ∧ ((∃ m : Nat, tt_at pl1 h0 24 (.int (nI m)) ∧ n24 ≤ m ∧ m ≤ n24 + 7 ∧ r = none)))) (tt_OX (fun _ _ _ => False)) := by
  refine jj_start hl (by decide) jw_b4eaee752c (jj_le rfl) ?_
  intro p e s m args below meth c A hargs hA C hex hmn
  have hfr := tt_fr.refl (K := Kd) (WS := [(1, 24)]) pl0
  have hfa := tt_fa.refl (K := Kd) (WA := [13]) pl0
  refine jj_iconst (v := 0) C dX11_printWord_0 (by decide) ?_
  refine jj_istore_n C dX11_printWord_1 (by decide) rfl ?_
  refine jj_iload_n C dX11_printWord_2 rfl ?_
  refine jj_aload_n C dX11_printWord_3 rfl ?_
  refine tt_call0Vs (rest := [.int 0]) C (ct_J0_length_8abf5_s3 hl D cA ak) 35 (by decide) rfl jw_b95c722318 jw_b1ce304435 jw_d08f03a22e jw_4ea6285965 jw_bbc7045666 jn_J0_length_8abf5 rfl (jj_le rfl) (jj_le rfl) (jj_le rfl) (jj_le rfl) (jj_le rfl) dX11_printWord_4 rfl (fun w1 r O_1 => ?_)
  obtain ⟨-, rfl⟩ := O_1
  refine jj_icmp_geF (tgt := 25) C dX11_printWord_7 (by decide) (by decide) ?_
  refine jj_aload_n C dX11_printWord_10 rfl ?_
  refine jj_aload_n C dX11_printWord_11 rfl ?_
  refine jj_iload_n C dX11_printWord_12 rfl ?_
  refine tt_call0Vs (rest := [.ref h0]) C (ct_J0_charAt_5068e_s13 hl D cA ak) 35 (by decide) rfl jw_0b21ef6890 jw_acb9174fef jw_675efe837b jw_4ea6285965 jw_391c0f56bd jn_J0_charAt_5068e rfl (jj_le rfl) (jj_le rfl) (jj_le rfl) (jj_le rfl) (jj_le rfl) dX11_printWord_13 rfl (fun w1 r O_2 => ?_)
  obtain ⟨-, rfl⟩ := O_2
  obtain ⟨qc, gs, hqc⟩ := tt_recv (cx := []) hok hk0 (by decide) rfl
  refine tt_callV (rest := []) C (rs_print hl D cA ak n24 (115 : Int32) hk0 hkw hka hkt hki hkf hkp (by first | omega | decide) (by first | omega | decide) hok hm hs24) [] [] rfl rfl (by decide) (by decide) (by decide) qc hqc rfl rfl jw_5467bceb3b jw_6617e6021e jw_7548414167 jw_f96c99f44d jw_b7d8894a18 jn_X11_print rfl (jj_le rfl) (jj_le rfl) (jj_le rfl) (jj_le rfl) (jj_le rfl) dX11_printWord_16 rfl (fun _ _ _ hX => hX.elim) (fun rx pl_3 r O_7 => ?_)
  obtain ⟨rfl, hok_4, hr_5, ha_6, hR_8⟩ := O_7
  replace hm := hm.fr hr_5 hk0 rfl
  replace hfr := hfr.trans (hr_5.sub (by decide))
  replace hfa := hfa.trans (ha_6.sub (by decide))
  obtain ⟨n_9, hf_10, ln_9, un_9, rfl⟩ := hR_8
  refine jj_iinc (v := 1) C dX11_printWord_19 rfl (by decide) (by decide) rfl ?_
  refine jj_goto (tgt := 2) C dX11_printWord_22 (by decide) ?_
  refine jj_iload_n C dX11_printWord_2 rfl ?_
  refine jj_aload_n C dX11_printWord_3 rfl ?_
  refine tt_call0Vs (rest := [.int 1]) C (ct_J0_length_8abf5_s3 hl D cA ak) 35 (by decide) rfl jw_b95c722318 jw_b1ce304435 jw_d08f03a22e jw_4ea6285965 jw_bbc7045666 jn_J0_length_8abf5 rfl (jj_le rfl) (jj_le rfl) (jj_le rfl) (jj_le rfl) (jj_le rfl) dX11_printWord_4 rfl (fun w1 r O_11 => ?_)
  obtain ⟨-, rfl⟩ := O_11
  refine jj_icmp_geF (tgt := 25) C dX11_printWord_7 (by decide) (by decide) ?_
  refine jj_aload_n C dX11_printWord_10 rfl ?_
  refine jj_aload_n C dX11_printWord_11 rfl ?_
  refine jj_iload_n C dX11_printWord_12 rfl ?_
  refine tt_call0Vs (rest := [.ref h0]) C (ct_J0_charAt_5068e_s14 hl D cA ak) 35 (by decide) rfl jw_0b21ef6890 jw_acb9174fef jw_675efe837b jw_4ea6285965 jw_391c0f56bd jn_J0_charAt_5068e rfl (jj_le rfl) (jj_le rfl) (jj_le rfl) (jj_le rfl) (jj_le rfl) dX11_printWord_13 rfl (fun w1 r O_12 => ?_)
  obtain ⟨-, rfl⟩ := O_12
  obtain ⟨qc, gs, hqc⟩ := tt_recv (cx := []) hok_4 hk0 (by decide) rfl
  refine tt_callV (rest := []) C (rs_print hl D cA ak n_9 (101 : Int32) hk0 hkw hka hkt hki hkf hkp (by first | omega | decide) (by first | omega | decide) hok_4 hm hf_10) [] [] rfl rfl (by decide) (by decide) (by decide) qc hqc rfl rfl jw_5467bceb3b jw_6617e6021e jw_7548414167 jw_f96c99f44d jw_b7d8894a18 jn_X11_print rfl (jj_le rfl) (jj_le rfl) (jj_le rfl) (jj_le rfl) (jj_le rfl) dX11_printWord_16 rfl (fun _ _ _ hX => hX.elim) (fun rx pl_13 r O_17 => ?_)
  obtain ⟨rfl, hok_14, hr_15, ha_16, hR_18⟩ := O_17
  replace hm := hm.fr hr_15 hk0 rfl
  replace hfr := hfr.trans (hr_15.sub (by decide))
  replace hfa := hfa.trans (ha_16.sub (by decide))
  obtain ⟨n_19, hf_20, ln_19, un_19, rfl⟩ := hR_18
  refine jj_iinc (v := 2) C dX11_printWord_19 rfl (by decide) (by decide) rfl ?_
  refine jj_goto (tgt := 2) C dX11_printWord_22 (by decide) ?_
  refine jj_iload_n C dX11_printWord_2 rfl ?_
  refine jj_aload_n C dX11_printWord_3 rfl ?_
  refine tt_call0Vs (rest := [.int 2]) C (ct_J0_length_8abf5_s3 hl D cA ak) 35 (by decide) rfl jw_b95c722318 jw_b1ce304435 jw_d08f03a22e jw_4ea6285965 jw_bbc7045666 jn_J0_length_8abf5 rfl (jj_le rfl) (jj_le rfl) (jj_le rfl) (jj_le rfl) (jj_le rfl) dX11_printWord_4 rfl (fun w1 r O_21 => ?_)
  obtain ⟨-, rfl⟩ := O_21
  refine jj_icmp_geF (tgt := 25) C dX11_printWord_7 (by decide) (by decide) ?_
  refine jj_aload_n C dX11_printWord_10 rfl ?_
  refine jj_aload_n C dX11_printWord_11 rfl ?_
  refine jj_iload_n C dX11_printWord_12 rfl ?_
  refine tt_call0Vs (rest := [.ref h0]) C (ct_J0_charAt_5068e_s15 hl D cA ak) 35 (by decide) rfl jw_0b21ef6890 jw_acb9174fef jw_675efe837b jw_4ea6285965 jw_391c0f56bd jn_J0_charAt_5068e rfl (jj_le rfl) (jj_le rfl) (jj_le rfl) (jj_le rfl) (jj_le rfl) dX11_printWord_13 rfl (fun w1 r O_22 => ?_)
  obtain ⟨-, rfl⟩ := O_22
  obtain ⟨qc, gs, hqc⟩ := tt_recv (cx := []) hok_14 hk0 (by decide) rfl
  refine tt_callV (rest := []) C (rs_print hl D cA ak n_19 (114 : Int32) hk0 hkw hka hkt hki hkf hkp (by first | omega | decide) (by first | omega | decide) hok_14 hm hf_20) [] [] rfl rfl (by decide) (by decide) (by decide) qc hqc rfl rfl jw_5467bceb3b jw_6617e6021e jw_7548414167 jw_f96c99f44d jw_b7d8894a18 jn_X11_print rfl (jj_le rfl) (jj_le rfl) (jj_le rfl) (jj_le rfl) (jj_le rfl) dX11_printWord_16 rfl (fun _ _ _ hX => hX.elim) (fun rx pl_23 r O_27 => ?_)
  obtain ⟨rfl, hok_24, hr_25, ha_26, hR_28⟩ := O_27
  replace hm := hm.fr hr_25 hk0 rfl
  replace hfr := hfr.trans (hr_25.sub (by decide))
  replace hfa := hfa.trans (ha_26.sub (by decide))
  obtain ⟨n_29, hf_30, ln_29, un_29, rfl⟩ := hR_28
  refine jj_iinc (v := 3) C dX11_printWord_19 rfl (by decide) (by decide) rfl ?_
  refine jj_goto (tgt := 2) C dX11_printWord_22 (by decide) ?_
  refine jj_iload_n C dX11_printWord_2 rfl ?_
  refine jj_aload_n C dX11_printWord_3 rfl ?_
  refine tt_call0Vs (rest := [.int 3]) C (ct_J0_length_8abf5_s3 hl D cA ak) 35 (by decide) rfl jw_b95c722318 jw_b1ce304435 jw_d08f03a22e jw_4ea6285965 jw_bbc7045666 jn_J0_length_8abf5 rfl (jj_le rfl) (jj_le rfl) (jj_le rfl) (jj_le rfl) (jj_le rfl) dX11_printWord_4 rfl (fun w1 r O_31 => ?_)
  obtain ⟨-, rfl⟩ := O_31
  refine jj_icmp_geF (tgt := 25) C dX11_printWord_7 (by decide) (by decide) ?_
  refine jj_aload_n C dX11_printWord_10 rfl ?_
  refine jj_aload_n C dX11_printWord_11 rfl ?_
  refine jj_iload_n C dX11_printWord_12 rfl ?_
  refine tt_call0Vs (rest := [.ref h0]) C (ct_J0_charAt_5068e_s16 hl D cA ak) 35 (by decide) rfl jw_0b21ef6890 jw_acb9174fef jw_675efe837b jw_4ea6285965 jw_391c0f56bd jn_J0_charAt_5068e rfl (jj_le rfl) (jj_le rfl) (jj_le rfl) (jj_le rfl) (jj_le rfl) dX11_printWord_13 rfl (fun w1 r O_32 => ?_)
  obtain ⟨-, rfl⟩ := O_32
  obtain ⟨qc, gs, hqc⟩ := tt_recv (cx := []) hok_24 hk0 (by decide) rfl
  refine tt_callV (rest := []) C (rs_print hl D cA ak n_29 (105 : Int32) hk0 hkw hka hkt hki hkf hkp (by first | omega | decide) (by first | omega | decide) hok_24 hm hf_30) [] [] rfl rfl (by decide) (by decide) (by decide) qc hqc rfl rfl jw_5467bceb3b jw_6617e6021e jw_7548414167 jw_f96c99f44d jw_b7d8894a18 jn_X11_print rfl (jj_le rfl) (jj_le rfl) (jj_le rfl) (jj_le rfl) (jj_le rfl) dX11_printWord_16 rfl (fun _ _ _ hX => hX.elim) (fun rx pl_33 r O_37 => ?_)
  obtain ⟨rfl, hok_34, hr_35, ha_36, hR_38⟩ := O_37
  replace hm := hm.fr hr_35 hk0 rfl
  replace hfr := hfr.trans (hr_35.sub (by decide))
  replace hfa := hfa.trans (ha_36.sub (by decide))
  obtain ⟨n_39, hf_40, ln_39, un_39, rfl⟩ := hR_38
  refine jj_iinc (v := 4) C dX11_printWord_19 rfl (by decide) (by decide) rfl ?_
  refine jj_goto (tgt := 2) C dX11_printWord_22 (by decide) ?_
  refine jj_iload_n C dX11_printWord_2 rfl ?_
  refine jj_aload_n C dX11_printWord_3 rfl ?_
  refine tt_call0Vs (rest := [.int 4]) C (ct_J0_length_8abf5_s3 hl D cA ak) 35 (by decide) rfl jw_b95c722318 jw_b1ce304435 jw_d08f03a22e jw_4ea6285965 jw_bbc7045666 jn_J0_length_8abf5 rfl (jj_le rfl) (jj_le rfl) (jj_le rfl) (jj_le rfl) (jj_le rfl) dX11_printWord_4 rfl (fun w1 r O_41 => ?_)
  obtain ⟨-, rfl⟩ := O_41
  refine jj_icmp_geF (tgt := 25) C dX11_printWord_7 (by decide) (by decide) ?_
  refine jj_aload_n C dX11_printWord_10 rfl ?_
  refine jj_aload_n C dX11_printWord_11 rfl ?_
  refine jj_iload_n C dX11_printWord_12 rfl ?_
  refine tt_call0Vs (rest := [.ref h0]) C (ct_J0_charAt_5068e_s17 hl D cA ak) 35 (by decide) rfl jw_0b21ef6890 jw_acb9174fef jw_675efe837b jw_4ea6285965 jw_391c0f56bd jn_J0_charAt_5068e rfl (jj_le rfl) (jj_le rfl) (jj_le rfl) (jj_le rfl) (jj_le rfl) dX11_printWord_13 rfl (fun w1 r O_42 => ?_)
  obtain ⟨-, rfl⟩ := O_42
  obtain ⟨qc, gs, hqc⟩ := tt_recv (cx := []) hok_34 hk0 (by decide) rfl
  refine tt_callV (rest := []) C (rs_print hl D cA ak n_39 (101 : Int32) hk0 hkw hka hkt hki hkf hkp (by first | omega | decide) (by first | omega | decide) hok_34 hm hf_40) [] [] rfl rfl (by decide) (by decide) (by decide) qc hqc rfl rfl jw_5467bceb3b jw_6617e6021e jw_7548414167 jw_f96c99f44d jw_b7d8894a18 jn_X11_print rfl (jj_le rfl) (jj_le rfl) (jj_le rfl) (jj_le rfl) (jj_le rfl) dX11_printWord_16 rfl (fun _ _ _ hX => hX.elim) (fun rx pl_43 r O_47 => ?_)
  obtain ⟨rfl, hok_44, hr_45, ha_46, hR_48⟩ := O_47
  replace hm := hm.fr hr_45 hk0 rfl
  replace hfr := hfr.trans (hr_45.sub (by decide))
  replace hfa := hfa.trans (ha_46.sub (by decide))
  obtain ⟨n_49, hf_50, ln_49, un_49, rfl⟩ := hR_48
  refine jj_iinc (v := 5) C dX11_printWord_19 rfl (by decide) (by decide) rfl ?_
  refine jj_goto (tgt := 2) C dX11_printWord_22 (by decide) ?_
  refine jj_iload_n C dX11_printWord_2 rfl ?_
  refine jj_aload_n C dX11_printWord_3 rfl ?_
  refine tt_call0Vs (rest := [.int 5]) C (ct_J0_length_8abf5_s3 hl D cA ak) 35 (by decide) rfl jw_b95c722318 jw_b1ce304435 jw_d08f03a22e jw_4ea6285965 jw_bbc7045666 jn_J0_length_8abf5 rfl (jj_le rfl) (jj_le rfl) (jj_le rfl) (jj_le rfl) (jj_le rfl) dX11_printWord_4 rfl (fun w1 r O_51 => ?_)
  obtain ⟨-, rfl⟩ := O_51
  refine jj_icmp_geF (tgt := 25) C dX11_printWord_7 (by decide) (by decide) ?_
  refine jj_aload_n C dX11_printWord_10 rfl ?_
  refine jj_aload_n C dX11_printWord_11 rfl ?_
  refine jj_iload_n C dX11_printWord_12 rfl ?_
  refine tt_call0Vs (rest := [.ref h0]) C (ct_J0_charAt_5068e_s18 hl D cA ak) 35 (by decide) rfl jw_0b21ef6890 jw_acb9174fef jw_675efe837b jw_4ea6285965 jw_391c0f56bd jn_J0_charAt_5068e rfl (jj_le rfl) (jj_le rfl) (jj_le rfl) (jj_le rfl) (jj_le rfl) dX11_printWord_13 rfl (fun w1 r O_52 => ?_)
  obtain ⟨-, rfl⟩ := O_52
  obtain ⟨qc, gs, hqc⟩ := tt_recv (cx := []) hok_44 hk0 (by decide) rfl
  refine tt_callV (rest := []) C (rs_print hl D cA ak n_49 (115 : Int32) hk0 hkw hka hkt hki hkf hkp (by first | omega | decide) (by first | omega | decide) hok_44 hm hf_50) [] [] rfl rfl (by decide) (by decide) (by decide) qc hqc rfl rfl jw_5467bceb3b jw_6617e6021e jw_7548414167 jw_f96c99f44d jw_b7d8894a18 jn_X11_print rfl (jj_le rfl) (jj_le rfl) (jj_le rfl) (jj_le rfl) (jj_le rfl) dX11_printWord_16 rfl (fun _ _ _ hX => hX.elim) (fun rx pl_53 r O_57 => ?_)
  obtain ⟨rfl, hok_54, hr_55, ha_56, hR_58⟩ := O_57
  replace hm := hm.fr hr_55 hk0 rfl
  replace hfr := hfr.trans (hr_55.sub (by decide))
  replace hfa := hfa.trans (ha_56.sub (by decide))
  obtain ⟨n_59, hf_60, ln_59, un_59, rfl⟩ := hR_58
  refine jj_iinc (v := 6) C dX11_printWord_19 rfl (by decide) (by decide) rfl ?_
  refine jj_goto (tgt := 2) C dX11_printWord_22 (by decide) ?_
  refine jj_iload_n C dX11_printWord_2 rfl ?_
  refine jj_aload_n C dX11_printWord_3 rfl ?_
  refine tt_call0Vs (rest := [.int 6]) C (ct_J0_length_8abf5_s3 hl D cA ak) 35 (by decide) rfl jw_b95c722318 jw_b1ce304435 jw_d08f03a22e jw_4ea6285965 jw_bbc7045666 jn_J0_length_8abf5 rfl (jj_le rfl) (jj_le rfl) (jj_le rfl) (jj_le rfl) (jj_le rfl) dX11_printWord_4 rfl (fun w1 r O_61 => ?_)
  obtain ⟨-, rfl⟩ := O_61
  refine jj_icmp_geF (tgt := 25) C dX11_printWord_7 (by decide) (by decide) ?_
  refine jj_aload_n C dX11_printWord_10 rfl ?_
  refine jj_aload_n C dX11_printWord_11 rfl ?_
  refine jj_iload_n C dX11_printWord_12 rfl ?_
  refine tt_call0Vs (rest := [.ref h0]) C (ct_J0_charAt_5068e_s19 hl D cA ak) 35 (by decide) rfl jw_0b21ef6890 jw_acb9174fef jw_675efe837b jw_4ea6285965 jw_391c0f56bd jn_J0_charAt_5068e rfl (jj_le rfl) (jj_le rfl) (jj_le rfl) (jj_le rfl) (jj_le rfl) dX11_printWord_13 rfl (fun w1 r O_62 => ?_)
  obtain ⟨-, rfl⟩ := O_62
  obtain ⟨qc, gs, hqc⟩ := tt_recv (cx := []) hok_54 hk0 (by decide) rfl
  refine tt_callV (rest := []) C (rs_print hl D cA ak n_59 (32 : Int32) hk0 hkw hka hkt hki hkf hkp (by first | omega | decide) (by first | omega | decide) hok_54 hm hf_60) [] [] rfl rfl (by decide) (by decide) (by decide) qc hqc rfl rfl jw_5467bceb3b jw_6617e6021e jw_7548414167 jw_f96c99f44d jw_b7d8894a18 jn_X11_print rfl (jj_le rfl) (jj_le rfl) (jj_le rfl) (jj_le rfl) (jj_le rfl) dX11_printWord_16 rfl (fun _ _ _ hX => hX.elim) (fun rx pl_63 r O_67 => ?_)
  obtain ⟨rfl, hok_64, hr_65, ha_66, hR_68⟩ := O_67
  replace hm := hm.fr hr_65 hk0 rfl
  replace hfr := hfr.trans (hr_65.sub (by decide))
  replace hfa := hfa.trans (ha_66.sub (by decide))
  obtain ⟨n_69, hf_70, ln_69, un_69, rfl⟩ := hR_68
  refine jj_iinc (v := 7) C dX11_printWord_19 rfl (by decide) (by decide) rfl ?_
  refine jj_goto (tgt := 2) C dX11_printWord_22 (by decide) ?_
  refine jj_iload_n C dX11_printWord_2 rfl ?_
  refine jj_aload_n C dX11_printWord_3 rfl ?_
  refine tt_call0Vs (rest := [.int 7]) C (ct_J0_length_8abf5_s3 hl D cA ak) 35 (by decide) rfl jw_b95c722318 jw_b1ce304435 jw_d08f03a22e jw_4ea6285965 jw_bbc7045666 jn_J0_length_8abf5 rfl (jj_le rfl) (jj_le rfl) (jj_le rfl) (jj_le rfl) (jj_le rfl) dX11_printWord_4 rfl (fun w1 r O_71 => ?_)
  obtain ⟨-, rfl⟩ := O_71
  refine jj_icmp_geT (tgt := 25) C dX11_printWord_7 (by decide) (by decide) ?_
  exact jj_vret C ⟨[], pl_63, rfl, rfl, hok_64, hfr, hfa, ⟨n_69, hf_70, (by omega), (by omega), rfl⟩⟩ dX11_printWord_25 (jj_le rfl) (jj_le rfl)

set_option maxHeartbeats 4000000 in
set_option maxRecDepth 100000 in
theorem rs_printNumber_0 {l : Launch} (hl : l.stackTraces = false) (D : va_G) (cA : Nat → ClassId) (ak : (Nat → Nat) × (Nat → Nat)) {Kd : Nat → Nat} {h0 aw aa at0 ai af ap : Nat} (n24 : Nat) (p1 : Int64) (hk0 : Kd h0 = 1) (hkw : Kd aw = 2) (hka : Kd aa = 3) (hkt : Kd at0 = 4) (hki : Kd ai = 5) (hkf : Kd af = 6) (hkp : Kd ap = 7) (ln24 : (0 : Int) ≤ (n24 : Int)) (un24 : (n24 : Int) ≤ 2399) (up1 : p1.toInt ≤ 9) {pl0 : va_W} (hok : tt_ok rt_tk cA Kd pl0) (hm : rl_m pl0 h0 aw aa at0 ai af ap) (hs24 : tt_at pl0 h0 24 (.int (nI n24))) : jj_M l D cA ak yX11_printNumber (.code yX11_printNumber cX11_printNumber 3 none) 1 21 0 0 ([] ++ pl0) [.ref h0, .long p1] (tt_O (fun rx pl1 r => rx = [] ∧ tt_ok rt_tk cA Kd pl1 ∧ tt_fr Kd [(1, 24)] pl0 pl1 ∧ tt_fa Kd [13] pl0 pl1 ∧ ((∃ m : Nat, tt_at pl1 h0 24 (.int (nI m)) ∧ n24 ≤ m ∧ m ≤ n24 + 1 ∧ r = none)))) (tt_OX (fun _ _ _ => False)) := by
  refine jj_start hl (by decide) jw_48170ecb3c (jj_le rfl) ?_
  intro p e s m args below meth c A hargs hA C hex hmn
  have hfr := tt_fr.refl (K := Kd) (WS := [(1, 24)]) pl0
  have hfa := tt_fa.refl (K := Kd) (WA := [13]) pl0
  refine jj_lload_n C dX11_printNumber_0 rfl ?_
  refine jj_ldc2 (v := 9) C dX11_printNumber_1 jw_9a85c015b2 ?_
  refine jj_lcmp_le (tgt := 17) C dX11_printNumber_4 dX11_printNumber_5 (by decide) (fun c_1 => ?_) (fun c_1 => ?_)
  · have z_c_1 := jc_leL (a := p1.toInt) (b := 9) c_1 rfl (by decide)
    refine jj_aload_n C dX11_printNumber_17 rfl ?_
    refine jj_ldc2 (v := 48) C dX11_printNumber_18 jw_d6cfdd4319 ?_
    refine jj_lload_n C dX11_printNumber_21 rfl ?_
    refine jj_ldc2 (v := 10) C dX11_printNumber_22 jw_f5f0bc6b7c ?_
    refine jj_lrem C dX11_printNumber_25 (by decide) rfl ?_
    refine jj_ladd C dX11_printNumber_26 rfl ?_
    obtain ⟨x_2, ex_2⟩ : ∃ z : Int32, ((48 : Int64) + (p1 - p1 / (10 : Int64) * (10 : Int64))).toInt32 = z := ⟨_, rfl⟩
    refine jj_l2i (v := x_2) C dX11_printNumber_27 ex_2 ?_
    obtain ⟨x_3, ex_3⟩ : ∃ z : Int32, (x_2.toUInt32 % 65536).toInt32 = z := ⟨_, rfl⟩
    refine jj_i2c (v := x_3) C dX11_printNumber_28 ex_3 ?_
    obtain ⟨qc, gs, hqc⟩ := tt_recv (cx := []) hok hk0 (by decide) rfl
    refine tt_callV (rest := []) C (rs_print hl D cA ak n24 x_3 hk0 hkw hka hkt hki hkf hkp (by first | omega | decide) (by first | omega | decide) hok hm hs24) [] [] rfl rfl (by decide) (by decide) (by decide) qc hqc rfl rfl jw_5467bceb3b jw_6617e6021e jw_7548414167 jw_f96c99f44d jw_b7d8894a18 jn_X11_print rfl (jj_le rfl) (jj_le rfl) (jj_le rfl) (jj_le rfl) (jj_le rfl) dX11_printNumber_29 rfl (fun _ _ _ hX => hX.elim) (fun rx pl_4 r O_8 => ?_)
    obtain ⟨rfl, hok_5, hr_6, ha_7, hR_9⟩ := O_8
    replace hm := hm.fr hr_6 hk0 rfl
    replace hfr := hfr.trans (hr_6.sub (by decide))
    replace hfa := hfa.trans (ha_7.sub (by decide))
    obtain ⟨n_10, hf_11, ln_10, un_10, rfl⟩ := hR_9
    exact jj_vret C ⟨[], pl_4, rfl, rfl, hok_5, hfr, hfa, ⟨n_10, hf_11, (by omega), (by omega), rfl⟩⟩ dX11_printNumber_32 (jj_le rfl) (jj_le rfl)
  · have z_c_1 := jc_nleL (a := p1.toInt) (b := 9) c_1 rfl (by decide)
    exfalso; omega

set_option maxHeartbeats 4000000 in
set_option maxRecDepth 100000 in
theorem rs_printNumber_1 {l : Launch} (hl : l.stackTraces = false) (D : va_G) (cA : Nat → ClassId) (ak : (Nat → Nat) × (Nat → Nat)) {Kd : Nat → Nat} {h0 aw aa at0 ai af ap : Nat} (n24 : Nat) (p1 : Int64) (hk0 : Kd h0 = 1) (hkw : Kd aw = 2) (hka : Kd aa = 3) (hkt : Kd at0 = 4) (hki : Kd ai = 5) (hkf : Kd af = 6) (hkp : Kd ap = 7) (ln24 : (0 : Int) ≤ (n24 : Int)) (un24 : (n24 : Int) ≤ 2398) (up1 : p1.toInt ≤ 99) {pl0 : va_W} (hok : tt_ok rt_tk cA Kd pl0) (hm : rl_m pl0 h0 aw aa at0 ai af ap) (hs24 : tt_at pl0 h0 24 (.int (nI n24))) : jj_M l D cA ak yX11_printNumber (.code yX11_printNumber cX11_printNumber 3 none) 2 43 0 0 ([] ++ pl0) [.ref h0, .long p1] (tt_O (fun rx pl1 r => rx = [] ∧ tt_ok rt_tk cA Kd pl1 ∧ tt_fr Kd [(1, 24)] pl0 pl1 ∧ tt_fa Kd [13] pl0 pl1 ∧ ((∃ m : Nat, tt_at pl1 h0 24 (.int (nI m)) ∧ n24 ≤ m ∧ m ≤ n24 + 2 ∧ r = none)))) (tt_OX (fun _ _ _ => False)) := by
  refine jj_start hl (by decide) jw_48170ecb3c (jj_le rfl) ?_
  intro p e s m args below meth c A hargs hA C hex hmn
  have hfr := tt_fr.refl (K := Kd) (WS := [(1, 24)]) pl0
  have hfa := tt_fa.refl (K := Kd) (WA := [13]) pl0
  refine jj_lload_n C dX11_printNumber_0 rfl ?_
  refine jj_ldc2 (v := 9) C dX11_printNumber_1 jw_9a85c015b2 ?_
  refine jj_lcmp_le (tgt := 17) C dX11_printNumber_4 dX11_printNumber_5 (by decide) (fun c_1 => ?_) (fun c_1 => ?_)
  · have z_c_1 := jc_leL (a := p1.toInt) (b := 9) c_1 rfl (by decide)
    refine jj_aload_n C dX11_printNumber_17 rfl ?_
    refine jj_ldc2 (v := 48) C dX11_printNumber_18 jw_d6cfdd4319 ?_
    refine jj_lload_n C dX11_printNumber_21 rfl ?_
    refine jj_ldc2 (v := 10) C dX11_printNumber_22 jw_f5f0bc6b7c ?_
    refine jj_lrem C dX11_printNumber_25 (by decide) rfl ?_
    refine jj_ladd C dX11_printNumber_26 rfl ?_
    obtain ⟨x_2, ex_2⟩ : ∃ z : Int32, ((48 : Int64) + (p1 - p1 / (10 : Int64) * (10 : Int64))).toInt32 = z := ⟨_, rfl⟩
    refine jj_l2i (v := x_2) C dX11_printNumber_27 ex_2 ?_
    obtain ⟨x_3, ex_3⟩ : ∃ z : Int32, (x_2.toUInt32 % 65536).toInt32 = z := ⟨_, rfl⟩
    refine jj_i2c (v := x_3) C dX11_printNumber_28 ex_3 ?_
    obtain ⟨qc, gs, hqc⟩ := tt_recv (cx := []) hok hk0 (by decide) rfl
    refine tt_callV (rest := []) C (rs_print hl D cA ak n24 x_3 hk0 hkw hka hkt hki hkf hkp (by first | omega | decide) (by first | omega | decide) hok hm hs24) [] [] rfl rfl (by decide) (by decide) (by decide) qc hqc rfl rfl jw_5467bceb3b jw_6617e6021e jw_7548414167 jw_f96c99f44d jw_b7d8894a18 jn_X11_print rfl (jj_le rfl) (jj_le rfl) (jj_le rfl) (jj_le rfl) (jj_le rfl) dX11_printNumber_29 rfl (fun _ _ _ hX => hX.elim) (fun rx pl_4 r O_8 => ?_)
    obtain ⟨rfl, hok_5, hr_6, ha_7, hR_9⟩ := O_8
    replace hm := hm.fr hr_6 hk0 rfl
    replace hfr := hfr.trans (hr_6.sub (by decide))
    replace hfa := hfa.trans (ha_7.sub (by decide))
    obtain ⟨n_10, hf_11, ln_10, un_10, rfl⟩ := hR_9
    exact jj_vret C ⟨[], pl_4, rfl, rfl, hok_5, hfr, hfa, ⟨n_10, hf_11, (by omega), (by omega), rfl⟩⟩ dX11_printNumber_32 (jj_le rfl) (jj_le rfl)
  · have z_c_1 := jc_nleL (a := p1.toInt) (b := 9) c_1 rfl (by decide)
    refine jj_aload_n C dX11_printNumber_8 rfl ?_
    refine jj_lload_n C dX11_printNumber_9 rfl ?_
    refine jj_ldc2 (v := 10) C dX11_printNumber_10 jw_f5f0bc6b7c ?_
    refine jj_ldiv C dX11_printNumber_13 (by decide) rfl ?_
    obtain ⟨qc, gs, hqc⟩ := tt_recv (cx := []) hok hk0 (by decide) rfl
    refine tt_callV (rest := []) C (rs_printNumber_0 hl D cA ak n24 (p1 / (10 : Int64)) hk0 hkw hka hkt hki hkf hkp (by first | omega | decide) (by first | omega | decide) (rz_d10 (b := 9) (by omega) (by omega)) hok hm hs24) [] [] rfl rfl (by decide) (by decide) (by decide) qc hqc rfl rfl jw_bb61e96786 jw_d73f5cdc0e jw_e0101bc9a3 jw_f96c99f44d jw_48170ecb3c jn_X11_printNumber rfl (jj_le rfl) (jj_le rfl) (jj_le rfl) (jj_le rfl) (jj_le rfl) dX11_printNumber_14 rfl (fun _ _ _ hX => hX.elim) (fun rx pl_12 r O_16 => ?_)
    obtain ⟨rfl, hok_13, hr_14, ha_15, hR_17⟩ := O_16
    replace hm := hm.fr hr_14 hk0 rfl
    replace hfr := hfr.trans (hr_14.sub (by decide))
    replace hfa := hfa.trans (ha_15.sub (by decide))
    obtain ⟨n_18, hf_19, ln_18, un_18, rfl⟩ := hR_17
    refine jj_aload_n C dX11_printNumber_17 rfl ?_
    refine jj_ldc2 (v := 48) C dX11_printNumber_18 jw_d6cfdd4319 ?_
    refine jj_lload_n C dX11_printNumber_21 rfl ?_
    refine jj_ldc2 (v := 10) C dX11_printNumber_22 jw_f5f0bc6b7c ?_
    refine jj_lrem C dX11_printNumber_25 (by decide) rfl ?_
    refine jj_ladd C dX11_printNumber_26 rfl ?_
    obtain ⟨x_20, ex_20⟩ : ∃ z : Int32, ((48 : Int64) + (p1 - p1 / (10 : Int64) * (10 : Int64))).toInt32 = z := ⟨_, rfl⟩
    refine jj_l2i (v := x_20) C dX11_printNumber_27 ex_20 ?_
    obtain ⟨x_21, ex_21⟩ : ∃ z : Int32, (x_20.toUInt32 % 65536).toInt32 = z := ⟨_, rfl⟩
    refine jj_i2c (v := x_21) C dX11_printNumber_28 ex_21 ?_
    obtain ⟨qc, gs, hqc⟩ := tt_recv (cx := []) hok_13 hk0 (by decide) rfl
    refine tt_callV (rest := []) C (rs_print hl D cA ak n_18 x_21 hk0 hkw hka hkt hki hkf hkp (by first | omega | decide) (by first | omega | decide) hok_13 hm hf_19) [] [] rfl rfl (by decide) (by decide) (by decide) qc hqc rfl rfl jw_5467bceb3b jw_6617e6021e jw_7548414167 jw_f96c99f44d jw_b7d8894a18 jn_X11_print rfl (jj_le rfl) (jj_le rfl) (jj_le rfl) (jj_le rfl) (jj_le rfl) dX11_printNumber_29 rfl (fun _ _ _ hX => hX.elim) (fun rx pl_22 r O_26 => ?_)
    obtain ⟨rfl, hok_23, hr_24, ha_25, hR_27⟩ := O_26
    replace hm := hm.fr hr_24 hk0 rfl
    replace hfr := hfr.trans (hr_24.sub (by decide))
    replace hfa := hfa.trans (ha_25.sub (by decide))
    obtain ⟨n_28, hf_29, ln_28, un_28, rfl⟩ := hR_27
    exact jj_vret C ⟨[], pl_22, rfl, rfl, hok_23, hfr, hfa, ⟨n_28, hf_29, (by omega), (by omega), rfl⟩⟩ dX11_printNumber_32 (jj_le rfl) (jj_le rfl)

set_option maxHeartbeats 4000000 in
set_option maxRecDepth 100000 in
theorem rs_printNumber_2 {l : Launch} (hl : l.stackTraces = false) (D : va_G) (cA : Nat → ClassId) (ak : (Nat → Nat) × (Nat → Nat)) {Kd : Nat → Nat} {h0 aw aa at0 ai af ap : Nat} (n24 : Nat) (p1 : Int64) (hk0 : Kd h0 = 1) (hkw : Kd aw = 2) (hka : Kd aa = 3) (hkt : Kd at0 = 4) (hki : Kd ai = 5) (hkf : Kd af = 6) (hkp : Kd ap = 7) (ln24 : (0 : Int) ≤ (n24 : Int)) (un24 : (n24 : Int) ≤ 2397) (up1 : p1.toInt ≤ 999) {pl0 : va_W} (hok : tt_ok rt_tk cA Kd pl0) (hm : rl_m pl0 h0 aw aa at0 ai af ap) (hs24 : tt_at pl0 h0 24 (.int (nI n24))) : jj_M l D cA ak yX11_printNumber (.code yX11_printNumber cX11_printNumber 3 none) 3 65 0 0 ([] ++ pl0) [.ref h0, .long p1] (tt_O (fun rx pl1 r => rx = [] ∧ tt_ok rt_tk cA Kd pl1 ∧ tt_fr Kd [(1, 24)] pl0 pl1 ∧ tt_fa Kd [13] pl0 pl1 ∧ ((∃ m : Nat, tt_at pl1 h0 24 (.int (nI m)) ∧ n24 ≤ m ∧ m ≤ n24 + 3 ∧ r = none)))) (tt_OX (fun _ _ _ => False)) := by
  refine jj_start hl (by decide) jw_48170ecb3c (jj_le rfl) ?_
  intro p e s m args below meth c A hargs hA C hex hmn
  have hfr := tt_fr.refl (K := Kd) (WS := [(1, 24)]) pl0
  have hfa := tt_fa.refl (K := Kd) (WA := [13]) pl0
  refine jj_lload_n C dX11_printNumber_0 rfl ?_
  refine jj_ldc2 (v := 9) C dX11_printNumber_1 jw_9a85c015b2 ?_
  refine jj_lcmp_le (tgt := 17) C dX11_printNumber_4 dX11_printNumber_5 (by decide) (fun c_1 => ?_) (fun c_1 => ?_)
  · have z_c_1 := jc_leL (a := p1.toInt) (b := 9) c_1 rfl (by decide)
    refine jj_aload_n C dX11_printNumber_17 rfl ?_
    refine jj_ldc2 (v := 48) C dX11_printNumber_18 jw_d6cfdd4319 ?_
    refine jj_lload_n C dX11_printNumber_21 rfl ?_
    refine jj_ldc2 (v := 10) C dX11_printNumber_22 jw_f5f0bc6b7c ?_
    refine jj_lrem C dX11_printNumber_25 (by decide) rfl ?_
    refine jj_ladd C dX11_printNumber_26 rfl ?_
    obtain ⟨x_2, ex_2⟩ : ∃ z : Int32, ((48 : Int64) + (p1 - p1 / (10 : Int64) * (10 : Int64))).toInt32 = z := ⟨_, rfl⟩
    refine jj_l2i (v := x_2) C dX11_printNumber_27 ex_2 ?_
    obtain ⟨x_3, ex_3⟩ : ∃ z : Int32, (x_2.toUInt32 % 65536).toInt32 = z := ⟨_, rfl⟩
    refine jj_i2c (v := x_3) C dX11_printNumber_28 ex_3 ?_
    obtain ⟨qc, gs, hqc⟩ := tt_recv (cx := []) hok hk0 (by decide) rfl
    refine tt_callV (rest := []) C (rs_print hl D cA ak n24 x_3 hk0 hkw hka hkt hki hkf hkp (by first | omega | decide) (by first | omega | decide) hok hm hs24) [] [] rfl rfl (by decide) (by decide) (by decide) qc hqc rfl rfl jw_5467bceb3b jw_6617e6021e jw_7548414167 jw_f96c99f44d jw_b7d8894a18 jn_X11_print rfl (jj_le rfl) (jj_le rfl) (jj_le rfl) (jj_le rfl) (jj_le rfl) dX11_printNumber_29 rfl (fun _ _ _ hX => hX.elim) (fun rx pl_4 r O_8 => ?_)
    obtain ⟨rfl, hok_5, hr_6, ha_7, hR_9⟩ := O_8
    replace hm := hm.fr hr_6 hk0 rfl
    replace hfr := hfr.trans (hr_6.sub (by decide))
    replace hfa := hfa.trans (ha_7.sub (by decide))
    obtain ⟨n_10, hf_11, ln_10, un_10, rfl⟩ := hR_9
    exact jj_vret C ⟨[], pl_4, rfl, rfl, hok_5, hfr, hfa, ⟨n_10, hf_11, (by omega), (by omega), rfl⟩⟩ dX11_printNumber_32 (jj_le rfl) (jj_le rfl)
  · have z_c_1 := jc_nleL (a := p1.toInt) (b := 9) c_1 rfl (by decide)
    refine jj_aload_n C dX11_printNumber_8 rfl ?_
    refine jj_lload_n C dX11_printNumber_9 rfl ?_
    refine jj_ldc2 (v := 10) C dX11_printNumber_10 jw_f5f0bc6b7c ?_
    refine jj_ldiv C dX11_printNumber_13 (by decide) rfl ?_
    obtain ⟨qc, gs, hqc⟩ := tt_recv (cx := []) hok hk0 (by decide) rfl
    refine tt_callV (rest := []) C (rs_printNumber_1 hl D cA ak n24 (p1 / (10 : Int64)) hk0 hkw hka hkt hki hkf hkp (by first | omega | decide) (by first | omega | decide) (rz_d10 (b := 99) (by omega) (by omega)) hok hm hs24) [] [] rfl rfl (by decide) (by decide) (by decide) qc hqc rfl rfl jw_bb61e96786 jw_d73f5cdc0e jw_e0101bc9a3 jw_f96c99f44d jw_48170ecb3c jn_X11_printNumber rfl (jj_le rfl) (jj_le rfl) (jj_le rfl) (jj_le rfl) (jj_le rfl) dX11_printNumber_14 rfl (fun _ _ _ hX => hX.elim) (fun rx pl_12 r O_16 => ?_)
    obtain ⟨rfl, hok_13, hr_14, ha_15, hR_17⟩ := O_16
    replace hm := hm.fr hr_14 hk0 rfl
    replace hfr := hfr.trans (hr_14.sub (by decide))
    replace hfa := hfa.trans (ha_15.sub (by decide))
    obtain ⟨n_18, hf_19, ln_18, un_18, rfl⟩ := hR_17
    refine jj_aload_n C dX11_printNumber_17 rfl ?_
    refine jj_ldc2 (v := 48) C dX11_printNumber_18 jw_d6cfdd4319 ?_
    refine jj_lload_n C dX11_printNumber_21 rfl ?_
    refine jj_ldc2 (v := 10) C dX11_printNumber_22 jw_f5f0bc6b7c ?_
    refine jj_lrem C dX11_printNumber_25 (by decide) rfl ?_
    refine jj_ladd C dX11_printNumber_26 rfl ?_
    obtain ⟨x_20, ex_20⟩ : ∃ z : Int32, ((48 : Int64) + (p1 - p1 / (10 : Int64) * (10 : Int64))).toInt32 = z := ⟨_, rfl⟩
    refine jj_l2i (v := x_20) C dX11_printNumber_27 ex_20 ?_
    obtain ⟨x_21, ex_21⟩ : ∃ z : Int32, (x_20.toUInt32 % 65536).toInt32 = z := ⟨_, rfl⟩
    refine jj_i2c (v := x_21) C dX11_printNumber_28 ex_21 ?_
    obtain ⟨qc, gs, hqc⟩ := tt_recv (cx := []) hok_13 hk0 (by decide) rfl
    refine tt_callV (rest := []) C (rs_print hl D cA ak n_18 x_21 hk0 hkw hka hkt hki hkf hkp (by first | omega | decide) (by first | omega | decide) hok_13 hm hf_19) [] [] rfl rfl (by decide) (by decide) (by decide) qc hqc rfl rfl jw_5467bceb3b jw_6617e6021e jw_7548414167 jw_f96c99f44d jw_b7d8894a18 jn_X11_print rfl (jj_le rfl) (jj_le rfl) (jj_le rfl) (jj_le rfl) (jj_le rfl) dX11_printNumber_29 rfl (fun _ _ _ hX => hX.elim) (fun rx pl_22 r O_26 => ?_)
    obtain ⟨rfl, hok_23, hr_24, ha_25, hR_27⟩ := O_26
    replace hm := hm.fr hr_24 hk0 rfl
    replace hfr := hfr.trans (hr_24.sub (by decide))
    replace hfa := hfa.trans (ha_25.sub (by decide))
    obtain ⟨n_28, hf_29, ln_28, un_28, rfl⟩ := hR_27
    exact jj_vret C ⟨[], pl_22, rfl, rfl, hok_23, hfr, hfa, ⟨n_28, hf_29, (by omega), (by omega), rfl⟩⟩ dX11_printNumber_32 (jj_le rfl) (jj_le rfl)

set_option maxHeartbeats 4000000 in
set_option maxRecDepth 100000 in
theorem rs_printNumber_3 {l : Launch} (hl : l.stackTraces = false) (D : va_G) (cA : Nat → ClassId) (ak : (Nat → Nat) × (Nat → Nat)) {Kd : Nat → Nat} {h0 aw aa at0 ai af ap : Nat} (n24 : Nat) (p1 : Int64) (hk0 : Kd h0 = 1) (hkw : Kd aw = 2) (hka : Kd aa = 3) (hkt : Kd at0 = 4) (hki : Kd ai = 5) (hkf : Kd af = 6) (hkp : Kd ap = 7) (ln24 : (0 : Int) ≤ (n24 : Int)) (un24 : (n24 : Int) ≤ 2396) (up1 : p1.toInt ≤ 9999) {pl0 : va_W} (hok : tt_ok rt_tk cA Kd pl0) (hm : rl_m pl0 h0 aw aa at0 ai af ap) (hs24 : tt_at pl0 h0 24 (.int (nI n24))) : jj_M l D cA ak yX11_printNumber (.code yX11_printNumber cX11_printNumber 3 none) 4 87 0 0 ([] ++ pl0) [.ref h0, .long p1] (tt_O (fun rx pl1 r => rx = [] ∧ tt_ok rt_tk cA Kd pl1 ∧ tt_fr Kd [(1, 24)] pl0 pl1 ∧ tt_fa Kd [13] pl0 pl1 ∧ ((∃ m : Nat, tt_at pl1 h0 24 (.int (nI m)) ∧ n24 ≤ m ∧ m ≤ n24 + 4 ∧ r = none)))) (tt_OX (fun _ _ _ => False)) := by
  refine jj_start hl (by decide) jw_48170ecb3c (jj_le rfl) ?_
  intro p e s m args below meth c A hargs hA C hex hmn
  have hfr := tt_fr.refl (K := Kd) (WS := [(1, 24)]) pl0
  have hfa := tt_fa.refl (K := Kd) (WA := [13]) pl0
  refine jj_lload_n C dX11_printNumber_0 rfl ?_
  refine jj_ldc2 (v := 9) C dX11_printNumber_1 jw_9a85c015b2 ?_
  refine jj_lcmp_le (tgt := 17) C dX11_printNumber_4 dX11_printNumber_5 (by decide) (fun c_1 => ?_) (fun c_1 => ?_)
  · have z_c_1 := jc_leL (a := p1.toInt) (b := 9) c_1 rfl (by decide)
    refine jj_aload_n C dX11_printNumber_17 rfl ?_
    refine jj_ldc2 (v := 48) C dX11_printNumber_18 jw_d6cfdd4319 ?_
    refine jj_lload_n C dX11_printNumber_21 rfl ?_
    refine jj_ldc2 (v := 10) C dX11_printNumber_22 jw_f5f0bc6b7c ?_
    refine jj_lrem C dX11_printNumber_25 (by decide) rfl ?_
    refine jj_ladd C dX11_printNumber_26 rfl ?_
    obtain ⟨x_2, ex_2⟩ : ∃ z : Int32, ((48 : Int64) + (p1 - p1 / (10 : Int64) * (10 : Int64))).toInt32 = z := ⟨_, rfl⟩
    refine jj_l2i (v := x_2) C dX11_printNumber_27 ex_2 ?_
    obtain ⟨x_3, ex_3⟩ : ∃ z : Int32, (x_2.toUInt32 % 65536).toInt32 = z := ⟨_, rfl⟩
    refine jj_i2c (v := x_3) C dX11_printNumber_28 ex_3 ?_
    obtain ⟨qc, gs, hqc⟩ := tt_recv (cx := []) hok hk0 (by decide) rfl
    refine tt_callV (rest := []) C (rs_print hl D cA ak n24 x_3 hk0 hkw hka hkt hki hkf hkp (by first | omega | decide) (by first | omega | decide) hok hm hs24) [] [] rfl rfl (by decide) (by decide) (by decide) qc hqc rfl rfl jw_5467bceb3b jw_6617e6021e jw_7548414167 jw_f96c99f44d jw_b7d8894a18 jn_X11_print rfl (jj_le rfl) (jj_le rfl) (jj_le rfl) (jj_le rfl) (jj_le rfl) dX11_printNumber_29 rfl (fun _ _ _ hX => hX.elim) (fun rx pl_4 r O_8 => ?_)
    obtain ⟨rfl, hok_5, hr_6, ha_7, hR_9⟩ := O_8
    replace hm := hm.fr hr_6 hk0 rfl
    replace hfr := hfr.trans (hr_6.sub (by decide))
    replace hfa := hfa.trans (ha_7.sub (by decide))
    obtain ⟨n_10, hf_11, ln_10, un_10, rfl⟩ := hR_9
    exact jj_vret C ⟨[], pl_4, rfl, rfl, hok_5, hfr, hfa, ⟨n_10, hf_11, (by omega), (by omega), rfl⟩⟩ dX11_printNumber_32 (jj_le rfl) (jj_le rfl)
  · have z_c_1 := jc_nleL (a := p1.toInt) (b := 9) c_1 rfl (by decide)
    refine jj_aload_n C dX11_printNumber_8 rfl ?_
    refine jj_lload_n C dX11_printNumber_9 rfl ?_
    refine jj_ldc2 (v := 10) C dX11_printNumber_10 jw_f5f0bc6b7c ?_
    refine jj_ldiv C dX11_printNumber_13 (by decide) rfl ?_
    obtain ⟨qc, gs, hqc⟩ := tt_recv (cx := []) hok hk0 (by decide) rfl
    refine tt_callV (rest := []) C (rs_printNumber_2 hl D cA ak n24 (p1 / (10 : Int64)) hk0 hkw hka hkt hki hkf hkp (by first | omega | decide) (by first | omega | decide) (rz_d10 (b := 999) (by omega) (by omega)) hok hm hs24) [] [] rfl rfl (by decide) (by decide) (by decide) qc hqc rfl rfl jw_bb61e96786 jw_d73f5cdc0e jw_e0101bc9a3 jw_f96c99f44d jw_48170ecb3c jn_X11_printNumber rfl (jj_le rfl) (jj_le rfl) (jj_le rfl) (jj_le rfl) (jj_le rfl) dX11_printNumber_14 rfl (fun _ _ _ hX => hX.elim) (fun rx pl_12 r O_16 => ?_)
    obtain ⟨rfl, hok_13, hr_14, ha_15, hR_17⟩ := O_16
    replace hm := hm.fr hr_14 hk0 rfl
    replace hfr := hfr.trans (hr_14.sub (by decide))
    replace hfa := hfa.trans (ha_15.sub (by decide))
    obtain ⟨n_18, hf_19, ln_18, un_18, rfl⟩ := hR_17
    refine jj_aload_n C dX11_printNumber_17 rfl ?_
    refine jj_ldc2 (v := 48) C dX11_printNumber_18 jw_d6cfdd4319 ?_
    refine jj_lload_n C dX11_printNumber_21 rfl ?_
    refine jj_ldc2 (v := 10) C dX11_printNumber_22 jw_f5f0bc6b7c ?_
    refine jj_lrem C dX11_printNumber_25 (by decide) rfl ?_
    refine jj_ladd C dX11_printNumber_26 rfl ?_
    obtain ⟨x_20, ex_20⟩ : ∃ z : Int32, ((48 : Int64) + (p1 - p1 / (10 : Int64) * (10 : Int64))).toInt32 = z := ⟨_, rfl⟩
    refine jj_l2i (v := x_20) C dX11_printNumber_27 ex_20 ?_
    obtain ⟨x_21, ex_21⟩ : ∃ z : Int32, (x_20.toUInt32 % 65536).toInt32 = z := ⟨_, rfl⟩
    refine jj_i2c (v := x_21) C dX11_printNumber_28 ex_21 ?_
    obtain ⟨qc, gs, hqc⟩ := tt_recv (cx := []) hok_13 hk0 (by decide) rfl
    refine tt_callV (rest := []) C (rs_print hl D cA ak n_18 x_21 hk0 hkw hka hkt hki hkf hkp (by first | omega | decide) (by first | omega | decide) hok_13 hm hf_19) [] [] rfl rfl (by decide) (by decide) (by decide) qc hqc rfl rfl jw_5467bceb3b jw_6617e6021e jw_7548414167 jw_f96c99f44d jw_b7d8894a18 jn_X11_print rfl (jj_le rfl) (jj_le rfl) (jj_le rfl) (jj_le rfl) (jj_le rfl) dX11_printNumber_29 rfl (fun _ _ _ hX => hX.elim) (fun rx pl_22 r O_26 => ?_)
    obtain ⟨rfl, hok_23, hr_24, ha_25, hR_27⟩ := O_26
    replace hm := hm.fr hr_24 hk0 rfl
    replace hfr := hfr.trans (hr_24.sub (by decide))
    replace hfa := hfa.trans (ha_25.sub (by decide))
    obtain ⟨n_28, hf_29, ln_28, un_28, rfl⟩ := hR_27
    exact jj_vret C ⟨[], pl_22, rfl, rfl, hok_23, hfr, hfa, ⟨n_28, hf_29, (by omega), (by omega), rfl⟩⟩ dX11_printNumber_32 (jj_le rfl) (jj_le rfl)

set_option maxHeartbeats 4000000 in
set_option maxRecDepth 100000 in
theorem rs_printNumber_4 {l : Launch} (hl : l.stackTraces = false) (D : va_G) (cA : Nat → ClassId) (ak : (Nat → Nat) × (Nat → Nat)) {Kd : Nat → Nat} {h0 aw aa at0 ai af ap : Nat} (n24 : Nat) (p1 : Int64) (hk0 : Kd h0 = 1) (hkw : Kd aw = 2) (hka : Kd aa = 3) (hkt : Kd at0 = 4) (hki : Kd ai = 5) (hkf : Kd af = 6) (hkp : Kd ap = 7) (ln24 : (0 : Int) ≤ (n24 : Int)) (un24 : (n24 : Int) ≤ 2395) (up1 : p1.toInt ≤ 99999) {pl0 : va_W} (hok : tt_ok rt_tk cA Kd pl0) (hm : rl_m pl0 h0 aw aa at0 ai af ap) (hs24 : tt_at pl0 h0 24 (.int (nI n24))) : jj_M l D cA ak yX11_printNumber (.code yX11_printNumber cX11_printNumber 3 none) 5 109 0 0 ([] ++ pl0) [.ref h0, .long p1] (tt_O (fun rx pl1 r => rx = [] ∧ tt_ok rt_tk cA Kd pl1 ∧ tt_fr Kd [(1, 24)] pl0 pl1 ∧ tt_fa Kd [13] pl0 pl1 ∧ ((∃ m : Nat, tt_at pl1 h0 24 (.int (nI m)) ∧ n24 ≤ m ∧ m ≤ n24 + 5 ∧ r = none)))) (tt_OX (fun _ _ _ => False)) := by
  refine jj_start hl (by decide) jw_48170ecb3c (jj_le rfl) ?_
  intro p e s m args below meth c A hargs hA C hex hmn
  have hfr := tt_fr.refl (K := Kd) (WS := [(1, 24)]) pl0
  have hfa := tt_fa.refl (K := Kd) (WA := [13]) pl0
  refine jj_lload_n C dX11_printNumber_0 rfl ?_
  refine jj_ldc2 (v := 9) C dX11_printNumber_1 jw_9a85c015b2 ?_
  refine jj_lcmp_le (tgt := 17) C dX11_printNumber_4 dX11_printNumber_5 (by decide) (fun c_1 => ?_) (fun c_1 => ?_)
  · have z_c_1 := jc_leL (a := p1.toInt) (b := 9) c_1 rfl (by decide)
    refine jj_aload_n C dX11_printNumber_17 rfl ?_
    refine jj_ldc2 (v := 48) C dX11_printNumber_18 jw_d6cfdd4319 ?_
    refine jj_lload_n C dX11_printNumber_21 rfl ?_
    refine jj_ldc2 (v := 10) C dX11_printNumber_22 jw_f5f0bc6b7c ?_
    refine jj_lrem C dX11_printNumber_25 (by decide) rfl ?_
    refine jj_ladd C dX11_printNumber_26 rfl ?_
    obtain ⟨x_2, ex_2⟩ : ∃ z : Int32, ((48 : Int64) + (p1 - p1 / (10 : Int64) * (10 : Int64))).toInt32 = z := ⟨_, rfl⟩
    refine jj_l2i (v := x_2) C dX11_printNumber_27 ex_2 ?_
    obtain ⟨x_3, ex_3⟩ : ∃ z : Int32, (x_2.toUInt32 % 65536).toInt32 = z := ⟨_, rfl⟩
    refine jj_i2c (v := x_3) C dX11_printNumber_28 ex_3 ?_
    obtain ⟨qc, gs, hqc⟩ := tt_recv (cx := []) hok hk0 (by decide) rfl
    refine tt_callV (rest := []) C (rs_print hl D cA ak n24 x_3 hk0 hkw hka hkt hki hkf hkp (by first | omega | decide) (by first | omega | decide) hok hm hs24) [] [] rfl rfl (by decide) (by decide) (by decide) qc hqc rfl rfl jw_5467bceb3b jw_6617e6021e jw_7548414167 jw_f96c99f44d jw_b7d8894a18 jn_X11_print rfl (jj_le rfl) (jj_le rfl) (jj_le rfl) (jj_le rfl) (jj_le rfl) dX11_printNumber_29 rfl (fun _ _ _ hX => hX.elim) (fun rx pl_4 r O_8 => ?_)
    obtain ⟨rfl, hok_5, hr_6, ha_7, hR_9⟩ := O_8
    replace hm := hm.fr hr_6 hk0 rfl
    replace hfr := hfr.trans (hr_6.sub (by decide))
    replace hfa := hfa.trans (ha_7.sub (by decide))
    obtain ⟨n_10, hf_11, ln_10, un_10, rfl⟩ := hR_9
    exact jj_vret C ⟨[], pl_4, rfl, rfl, hok_5, hfr, hfa, ⟨n_10, hf_11, (by omega), (by omega), rfl⟩⟩ dX11_printNumber_32 (jj_le rfl) (jj_le rfl)
  · have z_c_1 := jc_nleL (a := p1.toInt) (b := 9) c_1 rfl (by decide)
    refine jj_aload_n C dX11_printNumber_8 rfl ?_
    refine jj_lload_n C dX11_printNumber_9 rfl ?_
    refine jj_ldc2 (v := 10) C dX11_printNumber_10 jw_f5f0bc6b7c ?_
    refine jj_ldiv C dX11_printNumber_13 (by decide) rfl ?_
    obtain ⟨qc, gs, hqc⟩ := tt_recv (cx := []) hok hk0 (by decide) rfl
    refine tt_callV (rest := []) C (rs_printNumber_3 hl D cA ak n24 (p1 / (10 : Int64)) hk0 hkw hka hkt hki hkf hkp (by first | omega | decide) (by first | omega | decide) (rz_d10 (b := 9999) (by omega) (by omega)) hok hm hs24) [] [] rfl rfl (by decide) (by decide) (by decide) qc hqc rfl rfl jw_bb61e96786 jw_d73f5cdc0e jw_e0101bc9a3 jw_f96c99f44d jw_48170ecb3c jn_X11_printNumber rfl (jj_le rfl) (jj_le rfl) (jj_le rfl) (jj_le rfl) (jj_le rfl) dX11_printNumber_14 rfl (fun _ _ _ hX => hX.elim) (fun rx pl_12 r O_16 => ?_)
    obtain ⟨rfl, hok_13, hr_14, ha_15, hR_17⟩ := O_16
    replace hm := hm.fr hr_14 hk0 rfl
    replace hfr := hfr.trans (hr_14.sub (by decide))
    replace hfa := hfa.trans (ha_15.sub (by decide))
    obtain ⟨n_18, hf_19, ln_18, un_18, rfl⟩ := hR_17
    refine jj_aload_n C dX11_printNumber_17 rfl ?_
    refine jj_ldc2 (v := 48) C dX11_printNumber_18 jw_d6cfdd4319 ?_
    refine jj_lload_n C dX11_printNumber_21 rfl ?_
    refine jj_ldc2 (v := 10) C dX11_printNumber_22 jw_f5f0bc6b7c ?_
    refine jj_lrem C dX11_printNumber_25 (by decide) rfl ?_
    refine jj_ladd C dX11_printNumber_26 rfl ?_
    obtain ⟨x_20, ex_20⟩ : ∃ z : Int32, ((48 : Int64) + (p1 - p1 / (10 : Int64) * (10 : Int64))).toInt32 = z := ⟨_, rfl⟩
    refine jj_l2i (v := x_20) C dX11_printNumber_27 ex_20 ?_
    obtain ⟨x_21, ex_21⟩ : ∃ z : Int32, (x_20.toUInt32 % 65536).toInt32 = z := ⟨_, rfl⟩
    refine jj_i2c (v := x_21) C dX11_printNumber_28 ex_21 ?_
    obtain ⟨qc, gs, hqc⟩ := tt_recv (cx := []) hok_13 hk0 (by decide) rfl
    refine tt_callV (rest := []) C (rs_print hl D cA ak n_18 x_21 hk0 hkw hka hkt hki hkf hkp (by first | omega | decide) (by first | omega | decide) hok_13 hm hf_19) [] [] rfl rfl (by decide) (by decide) (by decide) qc hqc rfl rfl jw_5467bceb3b jw_6617e6021e jw_7548414167 jw_f96c99f44d jw_b7d8894a18 jn_X11_print rfl (jj_le rfl) (jj_le rfl) (jj_le rfl) (jj_le rfl) (jj_le rfl) dX11_printNumber_29 rfl (fun _ _ _ hX => hX.elim) (fun rx pl_22 r O_26 => ?_)
    obtain ⟨rfl, hok_23, hr_24, ha_25, hR_27⟩ := O_26
    replace hm := hm.fr hr_24 hk0 rfl
    replace hfr := hfr.trans (hr_24.sub (by decide))
    replace hfa := hfa.trans (ha_25.sub (by decide))
    obtain ⟨n_28, hf_29, ln_28, un_28, rfl⟩ := hR_27
    exact jj_vret C ⟨[], pl_22, rfl, rfl, hok_23, hfr, hfa, ⟨n_28, hf_29, (by omega), (by omega), rfl⟩⟩ dX11_printNumber_32 (jj_le rfl) (jj_le rfl)

set_option maxHeartbeats 4000000 in
set_option maxRecDepth 100000 in
theorem rs_printNumber_5 {l : Launch} (hl : l.stackTraces = false) (D : va_G) (cA : Nat → ClassId) (ak : (Nat → Nat) × (Nat → Nat)) {Kd : Nat → Nat} {h0 aw aa at0 ai af ap : Nat} (n24 : Nat) (p1 : Int64) (hk0 : Kd h0 = 1) (hkw : Kd aw = 2) (hka : Kd aa = 3) (hkt : Kd at0 = 4) (hki : Kd ai = 5) (hkf : Kd af = 6) (hkp : Kd ap = 7) (ln24 : (0 : Int) ≤ (n24 : Int)) (un24 : (n24 : Int) ≤ 2394) (up1 : p1.toInt ≤ 999999) {pl0 : va_W} (hok : tt_ok rt_tk cA Kd pl0) (hm : rl_m pl0 h0 aw aa at0 ai af ap) (hs24 : tt_at pl0 h0 24 (.int (nI n24))) : jj_M l D cA ak yX11_printNumber (.code yX11_printNumber cX11_printNumber 3 none) 6 131 0 0 ([] ++ pl0) [.ref h0, .long p1] (tt_O (fun rx pl1 r => rx = [] ∧ tt_ok rt_tk cA Kd pl1 ∧ tt_fr Kd [(1, 24)] pl0 pl1 ∧ tt_fa Kd [13] pl0 pl1 ∧ ((∃ m : Nat, tt_at pl1 h0 24 (.int (nI m)) ∧ n24 ≤ m ∧ m ≤ n24 + 6 ∧ r = none)))) (tt_OX (fun _ _ _ => False)) := by
  refine jj_start hl (by decide) jw_48170ecb3c (jj_le rfl) ?_
  intro p e s m args below meth c A hargs hA C hex hmn
  have hfr := tt_fr.refl (K := Kd) (WS := [(1, 24)]) pl0
  have hfa := tt_fa.refl (K := Kd) (WA := [13]) pl0
  refine jj_lload_n C dX11_printNumber_0 rfl ?_
  refine jj_ldc2 (v := 9) C dX11_printNumber_1 jw_9a85c015b2 ?_
  refine jj_lcmp_le (tgt := 17) C dX11_printNumber_4 dX11_printNumber_5 (by decide) (fun c_1 => ?_) (fun c_1 => ?_)
  · have z_c_1 := jc_leL (a := p1.toInt) (b := 9) c_1 rfl (by decide)
    refine jj_aload_n C dX11_printNumber_17 rfl ?_
    refine jj_ldc2 (v := 48) C dX11_printNumber_18 jw_d6cfdd4319 ?_
    refine jj_lload_n C dX11_printNumber_21 rfl ?_
    refine jj_ldc2 (v := 10) C dX11_printNumber_22 jw_f5f0bc6b7c ?_
    refine jj_lrem C dX11_printNumber_25 (by decide) rfl ?_
    refine jj_ladd C dX11_printNumber_26 rfl ?_
    obtain ⟨x_2, ex_2⟩ : ∃ z : Int32, ((48 : Int64) + (p1 - p1 / (10 : Int64) * (10 : Int64))).toInt32 = z := ⟨_, rfl⟩
    refine jj_l2i (v := x_2) C dX11_printNumber_27 ex_2 ?_
    obtain ⟨x_3, ex_3⟩ : ∃ z : Int32, (x_2.toUInt32 % 65536).toInt32 = z := ⟨_, rfl⟩
    refine jj_i2c (v := x_3) C dX11_printNumber_28 ex_3 ?_
    obtain ⟨qc, gs, hqc⟩ := tt_recv (cx := []) hok hk0 (by decide) rfl
    refine tt_callV (rest := []) C (rs_print hl D cA ak n24 x_3 hk0 hkw hka hkt hki hkf hkp (by first | omega | decide) (by first | omega | decide) hok hm hs24) [] [] rfl rfl (by decide) (by decide) (by decide) qc hqc rfl rfl jw_5467bceb3b jw_6617e6021e jw_7548414167 jw_f96c99f44d jw_b7d8894a18 jn_X11_print rfl (jj_le rfl) (jj_le rfl) (jj_le rfl) (jj_le rfl) (jj_le rfl) dX11_printNumber_29 rfl (fun _ _ _ hX => hX.elim) (fun rx pl_4 r O_8 => ?_)
    obtain ⟨rfl, hok_5, hr_6, ha_7, hR_9⟩ := O_8
    replace hm := hm.fr hr_6 hk0 rfl
    replace hfr := hfr.trans (hr_6.sub (by decide))
    replace hfa := hfa.trans (ha_7.sub (by decide))
    obtain ⟨n_10, hf_11, ln_10, un_10, rfl⟩ := hR_9
    exact jj_vret C ⟨[], pl_4, rfl, rfl, hok_5, hfr, hfa, ⟨n_10, hf_11, (by omega), (by omega), rfl⟩⟩ dX11_printNumber_32 (jj_le rfl) (jj_le rfl)
  · have z_c_1 := jc_nleL (a := p1.toInt) (b := 9) c_1 rfl (by decide)
    refine jj_aload_n C dX11_printNumber_8 rfl ?_
    refine jj_lload_n C dX11_printNumber_9 rfl ?_
    refine jj_ldc2 (v := 10) C dX11_printNumber_10 jw_f5f0bc6b7c ?_
    refine jj_ldiv C dX11_printNumber_13 (by decide) rfl ?_
    obtain ⟨qc, gs, hqc⟩ := tt_recv (cx := []) hok hk0 (by decide) rfl
    refine tt_callV (rest := []) C (rs_printNumber_4 hl D cA ak n24 (p1 / (10 : Int64)) hk0 hkw hka hkt hki hkf hkp (by first | omega | decide) (by first | omega | decide) (rz_d10 (b := 99999) (by omega) (by omega)) hok hm hs24) [] [] rfl rfl (by decide) (by decide) (by decide) qc hqc rfl rfl jw_bb61e96786 jw_d73f5cdc0e jw_e0101bc9a3 jw_f96c99f44d jw_48170ecb3c jn_X11_printNumber rfl (jj_le rfl) (jj_le rfl) (jj_le rfl) (jj_le rfl) (jj_le rfl) dX11_printNumber_14 rfl (fun _ _ _ hX => hX.elim) (fun rx pl_12 r O_16 => ?_)
    obtain ⟨rfl, hok_13, hr_14, ha_15, hR_17⟩ := O_16
    replace hm := hm.fr hr_14 hk0 rfl
    replace hfr := hfr.trans (hr_14.sub (by decide))
    replace hfa := hfa.trans (ha_15.sub (by decide))
    obtain ⟨n_18, hf_19, ln_18, un_18, rfl⟩ := hR_17
    refine jj_aload_n C dX11_printNumber_17 rfl ?_
    refine jj_ldc2 (v := 48) C dX11_printNumber_18 jw_d6cfdd4319 ?_
    refine jj_lload_n C dX11_printNumber_21 rfl ?_
    refine jj_ldc2 (v := 10) C dX11_printNumber_22 jw_f5f0bc6b7c ?_
    refine jj_lrem C dX11_printNumber_25 (by decide) rfl ?_
    refine jj_ladd C dX11_printNumber_26 rfl ?_
    obtain ⟨x_20, ex_20⟩ : ∃ z : Int32, ((48 : Int64) + (p1 - p1 / (10 : Int64) * (10 : Int64))).toInt32 = z := ⟨_, rfl⟩
    refine jj_l2i (v := x_20) C dX11_printNumber_27 ex_20 ?_
    obtain ⟨x_21, ex_21⟩ : ∃ z : Int32, (x_20.toUInt32 % 65536).toInt32 = z := ⟨_, rfl⟩
    refine jj_i2c (v := x_21) C dX11_printNumber_28 ex_21 ?_
    obtain ⟨qc, gs, hqc⟩ := tt_recv (cx := []) hok_13 hk0 (by decide) rfl
    refine tt_callV (rest := []) C (rs_print hl D cA ak n_18 x_21 hk0 hkw hka hkt hki hkf hkp (by first | omega | decide) (by first | omega | decide) hok_13 hm hf_19) [] [] rfl rfl (by decide) (by decide) (by decide) qc hqc rfl rfl jw_5467bceb3b jw_6617e6021e jw_7548414167 jw_f96c99f44d jw_b7d8894a18 jn_X11_print rfl (jj_le rfl) (jj_le rfl) (jj_le rfl) (jj_le rfl) (jj_le rfl) dX11_printNumber_29 rfl (fun _ _ _ hX => hX.elim) (fun rx pl_22 r O_26 => ?_)
    obtain ⟨rfl, hok_23, hr_24, ha_25, hR_27⟩ := O_26
    replace hm := hm.fr hr_24 hk0 rfl
    replace hfr := hfr.trans (hr_24.sub (by decide))
    replace hfa := hfa.trans (ha_25.sub (by decide))
    obtain ⟨n_28, hf_29, ln_28, un_28, rfl⟩ := hR_27
    exact jj_vret C ⟨[], pl_22, rfl, rfl, hok_23, hfr, hfa, ⟨n_28, hf_29, (by omega), (by omega), rfl⟩⟩ dX11_printNumber_32 (jj_le rfl) (jj_le rfl)

set_option maxHeartbeats 4000000 in
set_option maxRecDepth 100000 in
theorem rs_printNumber_6 {l : Launch} (hl : l.stackTraces = false) (D : va_G) (cA : Nat → ClassId) (ak : (Nat → Nat) × (Nat → Nat)) {Kd : Nat → Nat} {h0 aw aa at0 ai af ap : Nat} (n24 : Nat) (p1 : Int64) (hk0 : Kd h0 = 1) (hkw : Kd aw = 2) (hka : Kd aa = 3) (hkt : Kd at0 = 4) (hki : Kd ai = 5) (hkf : Kd af = 6) (hkp : Kd ap = 7) (ln24 : (0 : Int) ≤ (n24 : Int)) (un24 : (n24 : Int) ≤ 2393) (up1 : p1.toInt ≤ 9999999) {pl0 : va_W} (hok : tt_ok rt_tk cA Kd pl0) (hm : rl_m pl0 h0 aw aa at0 ai af ap) (hs24 : tt_at pl0 h0 24 (.int (nI n24))) : jj_M l D cA ak yX11_printNumber (.code yX11_printNumber cX11_printNumber 3 none) 7 153 0 0 ([] ++ pl0) [.ref h0, .long p1] (tt_O (fun rx pl1 r => rx = [] ∧ tt_ok rt_tk cA Kd pl1 ∧ tt_fr Kd [(1, 24)] pl0 pl1 ∧ tt_fa Kd [13] pl0 pl1 ∧ ((∃ m : Nat, tt_at pl1 h0 24 (.int (nI m)) ∧ n24 ≤ m ∧ m ≤ n24 + 7 ∧ r = none)))) (tt_OX (fun _ _ _ => False)) := by
  refine jj_start hl (by decide) jw_48170ecb3c (jj_le rfl) ?_
  intro p e s m args below meth c A hargs hA C hex hmn
  have hfr := tt_fr.refl (K := Kd) (WS := [(1, 24)]) pl0
  have hfa := tt_fa.refl (K := Kd) (WA := [13]) pl0
  refine jj_lload_n C dX11_printNumber_0 rfl ?_
  refine jj_ldc2 (v := 9) C dX11_printNumber_1 jw_9a85c015b2 ?_
  refine jj_lcmp_le (tgt := 17) C dX11_printNumber_4 dX11_printNumber_5 (by decide) (fun c_1 => ?_) (fun c_1 => ?_)
  · have z_c_1 := jc_leL (a := p1.toInt) (b := 9) c_1 rfl (by decide)
    refine jj_aload_n C dX11_printNumber_17 rfl ?_
    refine jj_ldc2 (v := 48) C dX11_printNumber_18 jw_d6cfdd4319 ?_
    refine jj_lload_n C dX11_printNumber_21 rfl ?_
    refine jj_ldc2 (v := 10) C dX11_printNumber_22 jw_f5f0bc6b7c ?_
    refine jj_lrem C dX11_printNumber_25 (by decide) rfl ?_
    refine jj_ladd C dX11_printNumber_26 rfl ?_
    obtain ⟨x_2, ex_2⟩ : ∃ z : Int32, ((48 : Int64) + (p1 - p1 / (10 : Int64) * (10 : Int64))).toInt32 = z := ⟨_, rfl⟩
    refine jj_l2i (v := x_2) C dX11_printNumber_27 ex_2 ?_
    obtain ⟨x_3, ex_3⟩ : ∃ z : Int32, (x_2.toUInt32 % 65536).toInt32 = z := ⟨_, rfl⟩
    refine jj_i2c (v := x_3) C dX11_printNumber_28 ex_3 ?_
    obtain ⟨qc, gs, hqc⟩ := tt_recv (cx := []) hok hk0 (by decide) rfl
    refine tt_callV (rest := []) C (rs_print hl D cA ak n24 x_3 hk0 hkw hka hkt hki hkf hkp (by first | omega | decide) (by first | omega | decide) hok hm hs24) [] [] rfl rfl (by decide) (by decide) (by decide) qc hqc rfl rfl jw_5467bceb3b jw_6617e6021e jw_7548414167 jw_f96c99f44d jw_b7d8894a18 jn_X11_print rfl (jj_le rfl) (jj_le rfl) (jj_le rfl) (jj_le rfl) (jj_le rfl) dX11_printNumber_29 rfl (fun _ _ _ hX => hX.elim) (fun rx pl_4 r O_8 => ?_)
    obtain ⟨rfl, hok_5, hr_6, ha_7, hR_9⟩ := O_8
    replace hm := hm.fr hr_6 hk0 rfl
    replace hfr := hfr.trans (hr_6.sub (by decide))
    replace hfa := hfa.trans (ha_7.sub (by decide))
    obtain ⟨n_10, hf_11, ln_10, un_10, rfl⟩ := hR_9
    exact jj_vret C ⟨[], pl_4, rfl, rfl, hok_5, hfr, hfa, ⟨n_10, hf_11, (by omega), (by omega), rfl⟩⟩ dX11_printNumber_32 (jj_le rfl) (jj_le rfl)
  · have z_c_1 := jc_nleL (a := p1.toInt) (b := 9) c_1 rfl (by decide)
    refine jj_aload_n C dX11_printNumber_8 rfl ?_
    refine jj_lload_n C dX11_printNumber_9 rfl ?_
    refine jj_ldc2 (v := 10) C dX11_printNumber_10 jw_f5f0bc6b7c ?_
    refine jj_ldiv C dX11_printNumber_13 (by decide) rfl ?_
    obtain ⟨qc, gs, hqc⟩ := tt_recv (cx := []) hok hk0 (by decide) rfl
    refine tt_callV (rest := []) C (rs_printNumber_5 hl D cA ak n24 (p1 / (10 : Int64)) hk0 hkw hka hkt hki hkf hkp (by first | omega | decide) (by first | omega | decide) (rz_d10 (b := 999999) (by omega) (by omega)) hok hm hs24) [] [] rfl rfl (by decide) (by decide) (by decide) qc hqc rfl rfl jw_bb61e96786 jw_d73f5cdc0e jw_e0101bc9a3 jw_f96c99f44d jw_48170ecb3c jn_X11_printNumber rfl (jj_le rfl) (jj_le rfl) (jj_le rfl) (jj_le rfl) (jj_le rfl) dX11_printNumber_14 rfl (fun _ _ _ hX => hX.elim) (fun rx pl_12 r O_16 => ?_)
    obtain ⟨rfl, hok_13, hr_14, ha_15, hR_17⟩ := O_16
    replace hm := hm.fr hr_14 hk0 rfl
    replace hfr := hfr.trans (hr_14.sub (by decide))
    replace hfa := hfa.trans (ha_15.sub (by decide))
    obtain ⟨n_18, hf_19, ln_18, un_18, rfl⟩ := hR_17
    refine jj_aload_n C dX11_printNumber_17 rfl ?_
    refine jj_ldc2 (v := 48) C dX11_printNumber_18 jw_d6cfdd4319 ?_
    refine jj_lload_n C dX11_printNumber_21 rfl ?_
    refine jj_ldc2 (v := 10) C dX11_printNumber_22 jw_f5f0bc6b7c ?_
    refine jj_lrem C dX11_printNumber_25 (by decide) rfl ?_
    refine jj_ladd C dX11_printNumber_26 rfl ?_
    obtain ⟨x_20, ex_20⟩ : ∃ z : Int32, ((48 : Int64) + (p1 - p1 / (10 : Int64) * (10 : Int64))).toInt32 = z := ⟨_, rfl⟩
    refine jj_l2i (v := x_20) C dX11_printNumber_27 ex_20 ?_
    obtain ⟨x_21, ex_21⟩ : ∃ z : Int32, (x_20.toUInt32 % 65536).toInt32 = z := ⟨_, rfl⟩
    refine jj_i2c (v := x_21) C dX11_printNumber_28 ex_21 ?_
    obtain ⟨qc, gs, hqc⟩ := tt_recv (cx := []) hok_13 hk0 (by decide) rfl
    refine tt_callV (rest := []) C (rs_print hl D cA ak n_18 x_21 hk0 hkw hka hkt hki hkf hkp (by first | omega | decide) (by first | omega | decide) hok_13 hm hf_19) [] [] rfl rfl (by decide) (by decide) (by decide) qc hqc rfl rfl jw_5467bceb3b jw_6617e6021e jw_7548414167 jw_f96c99f44d jw_b7d8894a18 jn_X11_print rfl (jj_le rfl) (jj_le rfl) (jj_le rfl) (jj_le rfl) (jj_le rfl) dX11_printNumber_29 rfl (fun _ _ _ hX => hX.elim) (fun rx pl_22 r O_26 => ?_)
    obtain ⟨rfl, hok_23, hr_24, ha_25, hR_27⟩ := O_26
    replace hm := hm.fr hr_24 hk0 rfl
    replace hfr := hfr.trans (hr_24.sub (by decide))
    replace hfa := hfa.trans (ha_25.sub (by decide))
    obtain ⟨n_28, hf_29, ln_28, un_28, rfl⟩ := hR_27
    exact jj_vret C ⟨[], pl_22, rfl, rfl, hok_23, hfr, hfa, ⟨n_28, hf_29, (by omega), (by omega), rfl⟩⟩ dX11_printNumber_32 (jj_le rfl) (jj_le rfl)

set_option maxHeartbeats 4000000 in
set_option maxRecDepth 100000 in
theorem rs_printNumber_7 {l : Launch} (hl : l.stackTraces = false) (D : va_G) (cA : Nat → ClassId) (ak : (Nat → Nat) × (Nat → Nat)) {Kd : Nat → Nat} {h0 aw aa at0 ai af ap : Nat} (n24 : Nat) (p1 : Int64) (hk0 : Kd h0 = 1) (hkw : Kd aw = 2) (hka : Kd aa = 3) (hkt : Kd at0 = 4) (hki : Kd ai = 5) (hkf : Kd af = 6) (hkp : Kd ap = 7) (ln24 : (0 : Int) ≤ (n24 : Int)) (un24 : (n24 : Int) ≤ 2392) (up1 : p1.toInt ≤ 99999999) {pl0 : va_W} (hok : tt_ok rt_tk cA Kd pl0) (hm : rl_m pl0 h0 aw aa at0 ai af ap) (hs24 : tt_at pl0 h0 24 (.int (nI n24))) : jj_M l D cA ak yX11_printNumber (.code yX11_printNumber cX11_printNumber 3 none) 8 175 0 0 ([] ++ pl0) [.ref h0, .long p1] (tt_O (fun rx pl1 r => rx = [] ∧ tt_ok rt_tk cA Kd pl1 ∧ tt_fr Kd [(1, 24)] pl0 pl1 ∧ tt_fa Kd [13] pl0 pl1 ∧ ((∃ m : Nat, tt_at pl1 h0 24 (.int (nI m)) ∧ n24 ≤ m ∧ m ≤ n24 + 8 ∧ r = none)))) (tt_OX (fun _ _ _ => False)) := by
  refine jj_start hl (by decide) jw_48170ecb3c (jj_le rfl) ?_
  intro p e s m args below meth c A hargs hA C hex hmn
  have hfr := tt_fr.refl (K := Kd) (WS := [(1, 24)]) pl0
  have hfa := tt_fa.refl (K := Kd) (WA := [13]) pl0
  refine jj_lload_n C dX11_printNumber_0 rfl ?_
  refine jj_ldc2 (v := 9) C dX11_printNumber_1 jw_9a85c015b2 ?_
  refine jj_lcmp_le (tgt := 17) C dX11_printNumber_4 dX11_printNumber_5 (by decide) (fun c_1 => ?_) (fun c_1 => ?_)
  · have z_c_1 := jc_leL (a := p1.toInt) (b := 9) c_1 rfl (by decide)
    refine jj_aload_n C dX11_printNumber_17 rfl ?_
    refine jj_ldc2 (v := 48) C dX11_printNumber_18 jw_d6cfdd4319 ?_
    refine jj_lload_n C dX11_printNumber_21 rfl ?_
    refine jj_ldc2 (v := 10) C dX11_printNumber_22 jw_f5f0bc6b7c ?_
    refine jj_lrem C dX11_printNumber_25 (by decide) rfl ?_
    refine jj_ladd C dX11_printNumber_26 rfl ?_
    obtain ⟨x_2, ex_2⟩ : ∃ z : Int32, ((48 : Int64) + (p1 - p1 / (10 : Int64) * (10 : Int64))).toInt32 = z := ⟨_, rfl⟩
    refine jj_l2i (v := x_2) C dX11_printNumber_27 ex_2 ?_
    obtain ⟨x_3, ex_3⟩ : ∃ z : Int32, (x_2.toUInt32 % 65536).toInt32 = z := ⟨_, rfl⟩
    refine jj_i2c (v := x_3) C dX11_printNumber_28 ex_3 ?_
    obtain ⟨qc, gs, hqc⟩ := tt_recv (cx := []) hok hk0 (by decide) rfl
    refine tt_callV (rest := []) C (rs_print hl D cA ak n24 x_3 hk0 hkw hka hkt hki hkf hkp (by first | omega | decide) (by first | omega | decide) hok hm hs24) [] [] rfl rfl (by decide) (by decide) (by decide) qc hqc rfl rfl jw_5467bceb3b jw_6617e6021e jw_7548414167 jw_f96c99f44d jw_b7d8894a18 jn_X11_print rfl (jj_le rfl) (jj_le rfl) (jj_le rfl) (jj_le rfl) (jj_le rfl) dX11_printNumber_29 rfl (fun _ _ _ hX => hX.elim) (fun rx pl_4 r O_8 => ?_)
    obtain ⟨rfl, hok_5, hr_6, ha_7, hR_9⟩ := O_8
    replace hm := hm.fr hr_6 hk0 rfl
    replace hfr := hfr.trans (hr_6.sub (by decide))
    replace hfa := hfa.trans (ha_7.sub (by decide))
    obtain ⟨n_10, hf_11, ln_10, un_10, rfl⟩ := hR_9
    exact jj_vret C ⟨[], pl_4, rfl, rfl, hok_5, hfr, hfa, ⟨n_10, hf_11, (by omega), (by omega), rfl⟩⟩ dX11_printNumber_32 (jj_le rfl) (jj_le rfl)
  · have z_c_1 := jc_nleL (a := p1.toInt) (b := 9) c_1 rfl (by decide)
    refine jj_aload_n C dX11_printNumber_8 rfl ?_
    refine jj_lload_n C dX11_printNumber_9 rfl ?_
    refine jj_ldc2 (v := 10) C dX11_printNumber_10 jw_f5f0bc6b7c ?_
    refine jj_ldiv C dX11_printNumber_13 (by decide) rfl ?_
    obtain ⟨qc, gs, hqc⟩ := tt_recv (cx := []) hok hk0 (by decide) rfl
    refine tt_callV (rest := []) C (rs_printNumber_6 hl D cA ak n24 (p1 / (10 : Int64)) hk0 hkw hka hkt hki hkf hkp (by first | omega | decide) (by first | omega | decide) (rz_d10 (b := 9999999) (by omega) (by omega)) hok hm hs24) [] [] rfl rfl (by decide) (by decide) (by decide) qc hqc rfl rfl jw_bb61e96786 jw_d73f5cdc0e jw_e0101bc9a3 jw_f96c99f44d jw_48170ecb3c jn_X11_printNumber rfl (jj_le rfl) (jj_le rfl) (jj_le rfl) (jj_le rfl) (jj_le rfl) dX11_printNumber_14 rfl (fun _ _ _ hX => hX.elim) (fun rx pl_12 r O_16 => ?_)
    obtain ⟨rfl, hok_13, hr_14, ha_15, hR_17⟩ := O_16
    replace hm := hm.fr hr_14 hk0 rfl
    replace hfr := hfr.trans (hr_14.sub (by decide))
    replace hfa := hfa.trans (ha_15.sub (by decide))
    obtain ⟨n_18, hf_19, ln_18, un_18, rfl⟩ := hR_17
    refine jj_aload_n C dX11_printNumber_17 rfl ?_
    refine jj_ldc2 (v := 48) C dX11_printNumber_18 jw_d6cfdd4319 ?_
    refine jj_lload_n C dX11_printNumber_21 rfl ?_
    refine jj_ldc2 (v := 10) C dX11_printNumber_22 jw_f5f0bc6b7c ?_
    refine jj_lrem C dX11_printNumber_25 (by decide) rfl ?_
    refine jj_ladd C dX11_printNumber_26 rfl ?_
    obtain ⟨x_20, ex_20⟩ : ∃ z : Int32, ((48 : Int64) + (p1 - p1 / (10 : Int64) * (10 : Int64))).toInt32 = z := ⟨_, rfl⟩
    refine jj_l2i (v := x_20) C dX11_printNumber_27 ex_20 ?_
    obtain ⟨x_21, ex_21⟩ : ∃ z : Int32, (x_20.toUInt32 % 65536).toInt32 = z := ⟨_, rfl⟩
    refine jj_i2c (v := x_21) C dX11_printNumber_28 ex_21 ?_
    obtain ⟨qc, gs, hqc⟩ := tt_recv (cx := []) hok_13 hk0 (by decide) rfl
    refine tt_callV (rest := []) C (rs_print hl D cA ak n_18 x_21 hk0 hkw hka hkt hki hkf hkp (by first | omega | decide) (by first | omega | decide) hok_13 hm hf_19) [] [] rfl rfl (by decide) (by decide) (by decide) qc hqc rfl rfl jw_5467bceb3b jw_6617e6021e jw_7548414167 jw_f96c99f44d jw_b7d8894a18 jn_X11_print rfl (jj_le rfl) (jj_le rfl) (jj_le rfl) (jj_le rfl) (jj_le rfl) dX11_printNumber_29 rfl (fun _ _ _ hX => hX.elim) (fun rx pl_22 r O_26 => ?_)
    obtain ⟨rfl, hok_23, hr_24, ha_25, hR_27⟩ := O_26
    replace hm := hm.fr hr_24 hk0 rfl
    replace hfr := hfr.trans (hr_24.sub (by decide))
    replace hfa := hfa.trans (ha_25.sub (by decide))
    obtain ⟨n_28, hf_29, ln_28, un_28, rfl⟩ := hR_27
    exact jj_vret C ⟨[], pl_22, rfl, rfl, hok_23, hfr, hfa, ⟨n_28, hf_29, (by omega), (by omega), rfl⟩⟩ dX11_printNumber_32 (jj_le rfl) (jj_le rfl)

set_option maxHeartbeats 4000000 in
set_option maxRecDepth 100000 in
theorem rs_printNumber_8 {l : Launch} (hl : l.stackTraces = false) (D : va_G) (cA : Nat → ClassId) (ak : (Nat → Nat) × (Nat → Nat)) {Kd : Nat → Nat} {h0 aw aa at0 ai af ap : Nat} (n24 : Nat) (p1 : Int64) (hk0 : Kd h0 = 1) (hkw : Kd aw = 2) (hka : Kd aa = 3) (hkt : Kd at0 = 4) (hki : Kd ai = 5) (hkf : Kd af = 6) (hkp : Kd ap = 7) (ln24 : (0 : Int) ≤ (n24 : Int)) (un24 : (n24 : Int) ≤ 2391) (up1 : p1.toInt ≤ 999999999) {pl0 : va_W} (hok : tt_ok rt_tk cA Kd pl0) (hm : rl_m pl0 h0 aw aa at0 ai af ap) (hs24 : tt_at pl0 h0 24 (.int (nI n24))) : jj_M l D cA ak yX11_printNumber (.code yX11_printNumber cX11_printNumber 3 none) 9 197 0 0 ([] ++ pl0) [.ref h0, .long p1] (tt_O (fun rx pl1 r => rx = [] ∧ tt_ok rt_tk cA Kd pl1 ∧ tt_fr Kd [(1, 24)] pl0 pl1 ∧ tt_fa Kd [13] pl0 pl1 ∧ ((∃ m : Nat, tt_at pl1 h0 24 (.int (nI m)) ∧ n24 ≤ m ∧ m ≤ n24 + 9 ∧ r = none)))) (tt_OX (fun _ _ _ => False)) := by
  refine jj_start hl (by decide) jw_48170ecb3c (jj_le rfl) ?_
  intro p e s m args below meth c A hargs hA C hex hmn
  have hfr := tt_fr.refl (K := Kd) (WS := [(1, 24)]) pl0
  have hfa := tt_fa.refl (K := Kd) (WA := [13]) pl0
  refine jj_lload_n C dX11_printNumber_0 rfl ?_
  refine jj_ldc2 (v := 9) C dX11_printNumber_1 jw_9a85c015b2 ?_
  refine jj_lcmp_le (tgt := 17) C dX11_printNumber_4 dX11_printNumber_5 (by decide) (fun c_1 => ?_) (fun c_1 => ?_)
  · have z_c_1 := jc_leL (a := p1.toInt) (b := 9) c_1 rfl (by decide)
    refine jj_aload_n C dX11_printNumber_17 rfl ?_
    refine jj_ldc2 (v := 48) C dX11_printNumber_18 jw_d6cfdd4319 ?_
    refine jj_lload_n C dX11_printNumber_21 rfl ?_
    refine jj_ldc2 (v := 10) C dX11_printNumber_22 jw_f5f0bc6b7c ?_
    refine jj_lrem C dX11_printNumber_25 (by decide) rfl ?_
    refine jj_ladd C dX11_printNumber_26 rfl ?_
    obtain ⟨x_2, ex_2⟩ : ∃ z : Int32, ((48 : Int64) + (p1 - p1 / (10 : Int64) * (10 : Int64))).toInt32 = z := ⟨_, rfl⟩
    refine jj_l2i (v := x_2) C dX11_printNumber_27 ex_2 ?_
    obtain ⟨x_3, ex_3⟩ : ∃ z : Int32, (x_2.toUInt32 % 65536).toInt32 = z := ⟨_, rfl⟩
    refine jj_i2c (v := x_3) C dX11_printNumber_28 ex_3 ?_
    obtain ⟨qc, gs, hqc⟩ := tt_recv (cx := []) hok hk0 (by decide) rfl
    refine tt_callV (rest := []) C (rs_print hl D cA ak n24 x_3 hk0 hkw hka hkt hki hkf hkp (by first | omega | decide) (by first | omega | decide) hok hm hs24) [] [] rfl rfl (by decide) (by decide) (by decide) qc hqc rfl rfl jw_5467bceb3b jw_6617e6021e jw_7548414167 jw_f96c99f44d jw_b7d8894a18 jn_X11_print rfl (jj_le rfl) (jj_le rfl) (jj_le rfl) (jj_le rfl) (jj_le rfl) dX11_printNumber_29 rfl (fun _ _ _ hX => hX.elim) (fun rx pl_4 r O_8 => ?_)
    obtain ⟨rfl, hok_5, hr_6, ha_7, hR_9⟩ := O_8
    replace hm := hm.fr hr_6 hk0 rfl
    replace hfr := hfr.trans (hr_6.sub (by decide))
    replace hfa := hfa.trans (ha_7.sub (by decide))
    obtain ⟨n_10, hf_11, ln_10, un_10, rfl⟩ := hR_9
    exact jj_vret C ⟨[], pl_4, rfl, rfl, hok_5, hfr, hfa, ⟨n_10, hf_11, (by omega), (by omega), rfl⟩⟩ dX11_printNumber_32 (jj_le rfl) (jj_le rfl)
  · have z_c_1 := jc_nleL (a := p1.toInt) (b := 9) c_1 rfl (by decide)
    refine jj_aload_n C dX11_printNumber_8 rfl ?_
    refine jj_lload_n C dX11_printNumber_9 rfl ?_
    refine jj_ldc2 (v := 10) C dX11_printNumber_10 jw_f5f0bc6b7c ?_
    refine jj_ldiv C dX11_printNumber_13 (by decide) rfl ?_
    obtain ⟨qc, gs, hqc⟩ := tt_recv (cx := []) hok hk0 (by decide) rfl
    refine tt_callV (rest := []) C (rs_printNumber_7 hl D cA ak n24 (p1 / (10 : Int64)) hk0 hkw hka hkt hki hkf hkp (by first | omega | decide) (by first | omega | decide) (rz_d10 (b := 99999999) (by omega) (by omega)) hok hm hs24) [] [] rfl rfl (by decide) (by decide) (by decide) qc hqc rfl rfl jw_bb61e96786 jw_d73f5cdc0e jw_e0101bc9a3 jw_f96c99f44d jw_48170ecb3c jn_X11_printNumber rfl (jj_le rfl) (jj_le rfl) (jj_le rfl) (jj_le rfl) (jj_le rfl) dX11_printNumber_14 rfl (fun _ _ _ hX => hX.elim) (fun rx pl_12 r O_16 => ?_)
    obtain ⟨rfl, hok_13, hr_14, ha_15, hR_17⟩ := O_16
    replace hm := hm.fr hr_14 hk0 rfl
    replace hfr := hfr.trans (hr_14.sub (by decide))
    replace hfa := hfa.trans (ha_15.sub (by decide))
    obtain ⟨n_18, hf_19, ln_18, un_18, rfl⟩ := hR_17
    refine jj_aload_n C dX11_printNumber_17 rfl ?_
    refine jj_ldc2 (v := 48) C dX11_printNumber_18 jw_d6cfdd4319 ?_
    refine jj_lload_n C dX11_printNumber_21 rfl ?_
    refine jj_ldc2 (v := 10) C dX11_printNumber_22 jw_f5f0bc6b7c ?_
    refine jj_lrem C dX11_printNumber_25 (by decide) rfl ?_
    refine jj_ladd C dX11_printNumber_26 rfl ?_
    obtain ⟨x_20, ex_20⟩ : ∃ z : Int32, ((48 : Int64) + (p1 - p1 / (10 : Int64) * (10 : Int64))).toInt32 = z := ⟨_, rfl⟩
    refine jj_l2i (v := x_20) C dX11_printNumber_27 ex_20 ?_
    obtain ⟨x_21, ex_21⟩ : ∃ z : Int32, (x_20.toUInt32 % 65536).toInt32 = z := ⟨_, rfl⟩
    refine jj_i2c (v := x_21) C dX11_printNumber_28 ex_21 ?_
    obtain ⟨qc, gs, hqc⟩ := tt_recv (cx := []) hok_13 hk0 (by decide) rfl
    refine tt_callV (rest := []) C (rs_print hl D cA ak n_18 x_21 hk0 hkw hka hkt hki hkf hkp (by first | omega | decide) (by first | omega | decide) hok_13 hm hf_19) [] [] rfl rfl (by decide) (by decide) (by decide) qc hqc rfl rfl jw_5467bceb3b jw_6617e6021e jw_7548414167 jw_f96c99f44d jw_b7d8894a18 jn_X11_print rfl (jj_le rfl) (jj_le rfl) (jj_le rfl) (jj_le rfl) (jj_le rfl) dX11_printNumber_29 rfl (fun _ _ _ hX => hX.elim) (fun rx pl_22 r O_26 => ?_)
    obtain ⟨rfl, hok_23, hr_24, ha_25, hR_27⟩ := O_26
    replace hm := hm.fr hr_24 hk0 rfl
    replace hfr := hfr.trans (hr_24.sub (by decide))
    replace hfa := hfa.trans (ha_25.sub (by decide))
    obtain ⟨n_28, hf_29, ln_28, un_28, rfl⟩ := hR_27
    exact jj_vret C ⟨[], pl_22, rfl, rfl, hok_23, hfr, hfa, ⟨n_28, hf_29, (by omega), (by omega), rfl⟩⟩ dX11_printNumber_32 (jj_le rfl) (jj_le rfl)

set_option maxHeartbeats 4000000 in
set_option maxRecDepth 100000 in
theorem rs_printNumber_9 {l : Launch} (hl : l.stackTraces = false) (D : va_G) (cA : Nat → ClassId) (ak : (Nat → Nat) × (Nat → Nat)) {Kd : Nat → Nat} {h0 aw aa at0 ai af ap : Nat} (n24 : Nat) (p1 : Int64) (hk0 : Kd h0 = 1) (hkw : Kd aw = 2) (hka : Kd aa = 3) (hkt : Kd at0 = 4) (hki : Kd ai = 5) (hkf : Kd af = 6) (hkp : Kd ap = 7) (ln24 : (0 : Int) ≤ (n24 : Int)) (un24 : (n24 : Int) ≤ 2390) (up1 : p1.toInt ≤ 9999999999) {pl0 : va_W} (hok : tt_ok rt_tk cA Kd pl0) (hm : rl_m pl0 h0 aw aa at0 ai af ap) (hs24 : tt_at pl0 h0 24 (.int (nI n24))) : jj_M l D cA ak yX11_printNumber (.code yX11_printNumber cX11_printNumber 3 none) 10 219 0 0 ([] ++ pl0) [.ref h0, .long p1] (tt_O (fun rx pl1 r => rx = [] ∧ tt_ok rt_tk cA Kd pl1 ∧ tt_fr Kd [(1, 24)] pl0 pl1 ∧ tt_fa Kd [13] pl0 pl1 ∧ ((∃ m : Nat, tt_at pl1 h0 24 (.int (nI m)) ∧ n24 ≤ m ∧ m ≤ n24 + 10 ∧ r = none)))) (tt_OX (fun _ _ _ => False)) := by
  refine jj_start hl (by decide) jw_48170ecb3c (jj_le rfl) ?_
  intro p e s m args below meth c A hargs hA C hex hmn
  have hfr := tt_fr.refl (K := Kd) (WS := [(1, 24)]) pl0
  have hfa := tt_fa.refl (K := Kd) (WA := [13]) pl0
  refine jj_lload_n C dX11_printNumber_0 rfl ?_
  refine jj_ldc2 (v := 9) C dX11_printNumber_1 jw_9a85c015b2 ?_
  refine jj_lcmp_le (tgt := 17) C dX11_printNumber_4 dX11_printNumber_5 (by decide) (fun c_1 => ?_) (fun c_1 => ?_)
  · have z_c_1 := jc_leL (a := p1.toInt) (b := 9) c_1 rfl (by decide)
    refine jj_aload_n C dX11_printNumber_17 rfl ?_
    refine jj_ldc2 (v := 48) C dX11_printNumber_18 jw_d6cfdd4319 ?_
    refine jj_lload_n C dX11_printNumber_21 rfl ?_
    refine jj_ldc2 (v := 10) C dX11_printNumber_22 jw_f5f0bc6b7c ?_
    refine jj_lrem C dX11_printNumber_25 (by decide) rfl ?_
    refine jj_ladd C dX11_printNumber_26 rfl ?_
    obtain ⟨x_2, ex_2⟩ : ∃ z : Int32, ((48 : Int64) + (p1 - p1 / (10 : Int64) * (10 : Int64))).toInt32 = z := ⟨_, rfl⟩
    refine jj_l2i (v := x_2) C dX11_printNumber_27 ex_2 ?_
    obtain ⟨x_3, ex_3⟩ : ∃ z : Int32, (x_2.toUInt32 % 65536).toInt32 = z := ⟨_, rfl⟩
    refine jj_i2c (v := x_3) C dX11_printNumber_28 ex_3 ?_
    obtain ⟨qc, gs, hqc⟩ := tt_recv (cx := []) hok hk0 (by decide) rfl
    refine tt_callV (rest := []) C (rs_print hl D cA ak n24 x_3 hk0 hkw hka hkt hki hkf hkp (by first | omega | decide) (by first | omega | decide) hok hm hs24) [] [] rfl rfl (by decide) (by decide) (by decide) qc hqc rfl rfl jw_5467bceb3b jw_6617e6021e jw_7548414167 jw_f96c99f44d jw_b7d8894a18 jn_X11_print rfl (jj_le rfl) (jj_le rfl) (jj_le rfl) (jj_le rfl) (jj_le rfl) dX11_printNumber_29 rfl (fun _ _ _ hX => hX.elim) (fun rx pl_4 r O_8 => ?_)
    obtain ⟨rfl, hok_5, hr_6, ha_7, hR_9⟩ := O_8
    replace hm := hm.fr hr_6 hk0 rfl
    replace hfr := hfr.trans (hr_6.sub (by decide))
    replace hfa := hfa.trans (ha_7.sub (by decide))
    obtain ⟨n_10, hf_11, ln_10, un_10, rfl⟩ := hR_9
    exact jj_vret C ⟨[], pl_4, rfl, rfl, hok_5, hfr, hfa, ⟨n_10, hf_11, (by omega), (by omega), rfl⟩⟩ dX11_printNumber_32 (jj_le rfl) (jj_le rfl)
  · have z_c_1 := jc_nleL (a := p1.toInt) (b := 9) c_1 rfl (by decide)
    refine jj_aload_n C dX11_printNumber_8 rfl ?_
    refine jj_lload_n C dX11_printNumber_9 rfl ?_
    refine jj_ldc2 (v := 10) C dX11_printNumber_10 jw_f5f0bc6b7c ?_
    refine jj_ldiv C dX11_printNumber_13 (by decide) rfl ?_
    obtain ⟨qc, gs, hqc⟩ := tt_recv (cx := []) hok hk0 (by decide) rfl
    refine tt_callV (rest := []) C (rs_printNumber_8 hl D cA ak n24 (p1 / (10 : Int64)) hk0 hkw hka hkt hki hkf hkp (by first | omega | decide) (by first | omega | decide) (rz_d10 (b := 999999999) (by omega) (by omega)) hok hm hs24) [] [] rfl rfl (by decide) (by decide) (by decide) qc hqc rfl rfl jw_bb61e96786 jw_d73f5cdc0e jw_e0101bc9a3 jw_f96c99f44d jw_48170ecb3c jn_X11_printNumber rfl (jj_le rfl) (jj_le rfl) (jj_le rfl) (jj_le rfl) (jj_le rfl) dX11_printNumber_14 rfl (fun _ _ _ hX => hX.elim) (fun rx pl_12 r O_16 => ?_)
    obtain ⟨rfl, hok_13, hr_14, ha_15, hR_17⟩ := O_16
    replace hm := hm.fr hr_14 hk0 rfl
    replace hfr := hfr.trans (hr_14.sub (by decide))
    replace hfa := hfa.trans (ha_15.sub (by decide))
    obtain ⟨n_18, hf_19, ln_18, un_18, rfl⟩ := hR_17
    refine jj_aload_n C dX11_printNumber_17 rfl ?_
    refine jj_ldc2 (v := 48) C dX11_printNumber_18 jw_d6cfdd4319 ?_
    refine jj_lload_n C dX11_printNumber_21 rfl ?_
    refine jj_ldc2 (v := 10) C dX11_printNumber_22 jw_f5f0bc6b7c ?_
    refine jj_lrem C dX11_printNumber_25 (by decide) rfl ?_
    refine jj_ladd C dX11_printNumber_26 rfl ?_
    obtain ⟨x_20, ex_20⟩ : ∃ z : Int32, ((48 : Int64) + (p1 - p1 / (10 : Int64) * (10 : Int64))).toInt32 = z := ⟨_, rfl⟩
    refine jj_l2i (v := x_20) C dX11_printNumber_27 ex_20 ?_
    obtain ⟨x_21, ex_21⟩ : ∃ z : Int32, (x_20.toUInt32 % 65536).toInt32 = z := ⟨_, rfl⟩
    refine jj_i2c (v := x_21) C dX11_printNumber_28 ex_21 ?_
    obtain ⟨qc, gs, hqc⟩ := tt_recv (cx := []) hok_13 hk0 (by decide) rfl
    refine tt_callV (rest := []) C (rs_print hl D cA ak n_18 x_21 hk0 hkw hka hkt hki hkf hkp (by first | omega | decide) (by first | omega | decide) hok_13 hm hf_19) [] [] rfl rfl (by decide) (by decide) (by decide) qc hqc rfl rfl jw_5467bceb3b jw_6617e6021e jw_7548414167 jw_f96c99f44d jw_b7d8894a18 jn_X11_print rfl (jj_le rfl) (jj_le rfl) (jj_le rfl) (jj_le rfl) (jj_le rfl) dX11_printNumber_29 rfl (fun _ _ _ hX => hX.elim) (fun rx pl_22 r O_26 => ?_)
    obtain ⟨rfl, hok_23, hr_24, ha_25, hR_27⟩ := O_26
    replace hm := hm.fr hr_24 hk0 rfl
    replace hfr := hfr.trans (hr_24.sub (by decide))
    replace hfa := hfa.trans (ha_25.sub (by decide))
    obtain ⟨n_28, hf_29, ln_28, un_28, rfl⟩ := hR_27
    exact jj_vret C ⟨[], pl_22, rfl, rfl, hok_23, hfr, hfa, ⟨n_28, hf_29, (by omega), (by omega), rfl⟩⟩ dX11_printNumber_32 (jj_le rfl) (jj_le rfl)

set_option maxHeartbeats 4000000 in
set_option maxRecDepth 100000 in
theorem rs_printNumber_10 {l : Launch} (hl : l.stackTraces = false) (D : va_G) (cA : Nat → ClassId) (ak : (Nat → Nat) × (Nat → Nat)) {Kd : Nat → Nat} {h0 aw aa at0 ai af ap : Nat} (n24 : Nat) (p1 : Int64) (hk0 : Kd h0 = 1) (hkw : Kd aw = 2) (hka : Kd aa = 3) (hkt : Kd at0 = 4) (hki : Kd ai = 5) (hkf : Kd af = 6) (hkp : Kd ap = 7) (ln24 : (0 : Int) ≤ (n24 : Int)) (un24 : (n24 : Int) ≤ 2389) (up1 : p1.toInt ≤ 99999999999) {pl0 : va_W} (hok : tt_ok rt_tk cA Kd pl0) (hm : rl_m pl0 h0 aw aa at0 ai af ap) (hs24 : tt_at pl0 h0 24 (.int (nI n24))) : jj_M l D cA ak yX11_printNumber (.code yX11_printNumber cX11_printNumber 3 none) 11 241 0 0 ([] ++ pl0) [.ref h0, .long p1] (tt_O (fun rx pl1 r => rx = [] ∧ tt_ok rt_tk cA Kd pl1 ∧ tt_fr Kd [(1, 24)] pl0 pl1 ∧ tt_fa Kd [13] pl0 pl1 ∧ ((∃ m : Nat, tt_at pl1 h0 24 (.int (nI m)) ∧ n24 ≤ m ∧ m ≤ n24 + 11 ∧ r = none)))) (tt_OX (fun _ _ _ => False)) := by
  refine jj_start hl (by decide) jw_48170ecb3c (jj_le rfl) ?_
  intro p e s m args below meth c A hargs hA C hex hmn
  have hfr := tt_fr.refl (K := Kd) (WS := [(1, 24)]) pl0
  have hfa := tt_fa.refl (K := Kd) (WA := [13]) pl0
  refine jj_lload_n C dX11_printNumber_0 rfl ?_
  refine jj_ldc2 (v := 9) C dX11_printNumber_1 jw_9a85c015b2 ?_
  refine jj_lcmp_le (tgt := 17) C dX11_printNumber_4 dX11_printNumber_5 (by decide) (fun c_1 => ?_) (fun c_1 => ?_)
  · have z_c_1 := jc_leL (a := p1.toInt) (b := 9) c_1 rfl (by decide)
    refine jj_aload_n C dX11_printNumber_17 rfl ?_
    refine jj_ldc2 (v := 48) C dX11_printNumber_18 jw_d6cfdd4319 ?_
    refine jj_lload_n C dX11_printNumber_21 rfl ?_
    refine jj_ldc2 (v := 10) C dX11_printNumber_22 jw_f5f0bc6b7c ?_
    refine jj_lrem C dX11_printNumber_25 (by decide) rfl ?_
    refine jj_ladd C dX11_printNumber_26 rfl ?_
    obtain ⟨x_2, ex_2⟩ : ∃ z : Int32, ((48 : Int64) + (p1 - p1 / (10 : Int64) * (10 : Int64))).toInt32 = z := ⟨_, rfl⟩
    refine jj_l2i (v := x_2) C dX11_printNumber_27 ex_2 ?_
    obtain ⟨x_3, ex_3⟩ : ∃ z : Int32, (x_2.toUInt32 % 65536).toInt32 = z := ⟨_, rfl⟩
    refine jj_i2c (v := x_3) C dX11_printNumber_28 ex_3 ?_
    obtain ⟨qc, gs, hqc⟩ := tt_recv (cx := []) hok hk0 (by decide) rfl
    refine tt_callV (rest := []) C (rs_print hl D cA ak n24 x_3 hk0 hkw hka hkt hki hkf hkp (by first | omega | decide) (by first | omega | decide) hok hm hs24) [] [] rfl rfl (by decide) (by decide) (by decide) qc hqc rfl rfl jw_5467bceb3b jw_6617e6021e jw_7548414167 jw_f96c99f44d jw_b7d8894a18 jn_X11_print rfl (jj_le rfl) (jj_le rfl) (jj_le rfl) (jj_le rfl) (jj_le rfl) dX11_printNumber_29 rfl (fun _ _ _ hX => hX.elim) (fun rx pl_4 r O_8 => ?_)
    obtain ⟨rfl, hok_5, hr_6, ha_7, hR_9⟩ := O_8
    replace hm := hm.fr hr_6 hk0 rfl
    replace hfr := hfr.trans (hr_6.sub (by decide))
    replace hfa := hfa.trans (ha_7.sub (by decide))
    obtain ⟨n_10, hf_11, ln_10, un_10, rfl⟩ := hR_9
    exact jj_vret C ⟨[], pl_4, rfl, rfl, hok_5, hfr, hfa, ⟨n_10, hf_11, (by omega), (by omega), rfl⟩⟩ dX11_printNumber_32 (jj_le rfl) (jj_le rfl)
  · have z_c_1 := jc_nleL (a := p1.toInt) (b := 9) c_1 rfl (by decide)
    refine jj_aload_n C dX11_printNumber_8 rfl ?_
    refine jj_lload_n C dX11_printNumber_9 rfl ?_
    refine jj_ldc2 (v := 10) C dX11_printNumber_10 jw_f5f0bc6b7c ?_
    refine jj_ldiv C dX11_printNumber_13 (by decide) rfl ?_
    obtain ⟨qc, gs, hqc⟩ := tt_recv (cx := []) hok hk0 (by decide) rfl
    refine tt_callV (rest := []) C (rs_printNumber_9 hl D cA ak n24 (p1 / (10 : Int64)) hk0 hkw hka hkt hki hkf hkp (by first | omega | decide) (by first | omega | decide) (rz_d10 (b := 9999999999) (by omega) (by omega)) hok hm hs24) [] [] rfl rfl (by decide) (by decide) (by decide) qc hqc rfl rfl jw_bb61e96786 jw_d73f5cdc0e jw_e0101bc9a3 jw_f96c99f44d jw_48170ecb3c jn_X11_printNumber rfl (jj_le rfl) (jj_le rfl) (jj_le rfl) (jj_le rfl) (jj_le rfl) dX11_printNumber_14 rfl (fun _ _ _ hX => hX.elim) (fun rx pl_12 r O_16 => ?_)
    obtain ⟨rfl, hok_13, hr_14, ha_15, hR_17⟩ := O_16
    replace hm := hm.fr hr_14 hk0 rfl
    replace hfr := hfr.trans (hr_14.sub (by decide))
    replace hfa := hfa.trans (ha_15.sub (by decide))
    obtain ⟨n_18, hf_19, ln_18, un_18, rfl⟩ := hR_17
    refine jj_aload_n C dX11_printNumber_17 rfl ?_
    refine jj_ldc2 (v := 48) C dX11_printNumber_18 jw_d6cfdd4319 ?_
    refine jj_lload_n C dX11_printNumber_21 rfl ?_
    refine jj_ldc2 (v := 10) C dX11_printNumber_22 jw_f5f0bc6b7c ?_
    refine jj_lrem C dX11_printNumber_25 (by decide) rfl ?_
    refine jj_ladd C dX11_printNumber_26 rfl ?_
    obtain ⟨x_20, ex_20⟩ : ∃ z : Int32, ((48 : Int64) + (p1 - p1 / (10 : Int64) * (10 : Int64))).toInt32 = z := ⟨_, rfl⟩
    refine jj_l2i (v := x_20) C dX11_printNumber_27 ex_20 ?_
    obtain ⟨x_21, ex_21⟩ : ∃ z : Int32, (x_20.toUInt32 % 65536).toInt32 = z := ⟨_, rfl⟩
    refine jj_i2c (v := x_21) C dX11_printNumber_28 ex_21 ?_
    obtain ⟨qc, gs, hqc⟩ := tt_recv (cx := []) hok_13 hk0 (by decide) rfl
    refine tt_callV (rest := []) C (rs_print hl D cA ak n_18 x_21 hk0 hkw hka hkt hki hkf hkp (by first | omega | decide) (by first | omega | decide) hok_13 hm hf_19) [] [] rfl rfl (by decide) (by decide) (by decide) qc hqc rfl rfl jw_5467bceb3b jw_6617e6021e jw_7548414167 jw_f96c99f44d jw_b7d8894a18 jn_X11_print rfl (jj_le rfl) (jj_le rfl) (jj_le rfl) (jj_le rfl) (jj_le rfl) dX11_printNumber_29 rfl (fun _ _ _ hX => hX.elim) (fun rx pl_22 r O_26 => ?_)
    obtain ⟨rfl, hok_23, hr_24, ha_25, hR_27⟩ := O_26
    replace hm := hm.fr hr_24 hk0 rfl
    replace hfr := hfr.trans (hr_24.sub (by decide))
    replace hfa := hfa.trans (ha_25.sub (by decide))
    obtain ⟨n_28, hf_29, ln_28, un_28, rfl⟩ := hR_27
    exact jj_vret C ⟨[], pl_22, rfl, rfl, hok_23, hfr, hfa, ⟨n_28, hf_29, (by omega), (by omega), rfl⟩⟩ dX11_printNumber_32 (jj_le rfl) (jj_le rfl)

set_option maxHeartbeats 4000000 in
set_option maxRecDepth 100000 in
theorem rs_printNumber_11 {l : Launch} (hl : l.stackTraces = false) (D : va_G) (cA : Nat → ClassId) (ak : (Nat → Nat) × (Nat → Nat)) {Kd : Nat → Nat} {h0 aw aa at0 ai af ap : Nat} (n24 : Nat) (p1 : Int64) (hk0 : Kd h0 = 1) (hkw : Kd aw = 2) (hka : Kd aa = 3) (hkt : Kd at0 = 4) (hki : Kd ai = 5) (hkf : Kd af = 6) (hkp : Kd ap = 7) (ln24 : (0 : Int) ≤ (n24 : Int)) (un24 : (n24 : Int) ≤ 2388) (up1 : p1.toInt ≤ 999999999999) {pl0 : va_W} (hok : tt_ok rt_tk cA Kd pl0) (hm : rl_m pl0 h0 aw aa at0 ai af ap) (hs24 : tt_at pl0 h0 24 (.int (nI n24))) : jj_M l D cA ak yX11_printNumber (.code yX11_printNumber cX11_printNumber 3 none) 12 263 0 0 ([] ++ pl0) [.ref h0, .long p1] (tt_O (fun rx pl1 r => rx = [] ∧ tt_ok rt_tk cA Kd pl1 ∧ tt_fr Kd [(1, 24)] pl0 pl1 ∧ tt_fa Kd [13] pl0 pl1 ∧ ((∃ m : Nat, tt_at pl1 h0 24 (.int (nI m)) ∧ n24 ≤ m ∧ m ≤ n24 + 12 ∧ r = none)))) (tt_OX (fun _ _ _ => False)) := by
  refine jj_start hl (by decide) jw_48170ecb3c (jj_le rfl) ?_
  intro p e s m args below meth c A hargs hA C hex hmn
  have hfr := tt_fr.refl (K := Kd) (WS := [(1, 24)]) pl0
  have hfa := tt_fa.refl (K := Kd) (WA := [13]) pl0
  refine jj_lload_n C dX11_printNumber_0 rfl ?_
  refine jj_ldc2 (v := 9) C dX11_printNumber_1 jw_9a85c015b2 ?_
  refine jj_lcmp_le (tgt := 17) C dX11_printNumber_4 dX11_printNumber_5 (by decide) (fun c_1 => ?_) (fun c_1 => ?_)
  · have z_c_1 := jc_leL (a := p1.toInt) (b := 9) c_1 rfl (by decide)
    refine jj_aload_n C dX11_printNumber_17 rfl ?_
    refine jj_ldc2 (v := 48) C dX11_printNumber_18 jw_d6cfdd4319 ?_
    refine jj_lload_n C dX11_printNumber_21 rfl ?_
    refine jj_ldc2 (v := 10) C dX11_printNumber_22 jw_f5f0bc6b7c ?_
    refine jj_lrem C dX11_printNumber_25 (by decide) rfl ?_
    refine jj_ladd C dX11_printNumber_26 rfl ?_
    obtain ⟨x_2, ex_2⟩ : ∃ z : Int32, ((48 : Int64) + (p1 - p1 / (10 : Int64) * (10 : Int64))).toInt32 = z := ⟨_, rfl⟩
    refine jj_l2i (v := x_2) C dX11_printNumber_27 ex_2 ?_
    obtain ⟨x_3, ex_3⟩ : ∃ z : Int32, (x_2.toUInt32 % 65536).toInt32 = z := ⟨_, rfl⟩
    refine jj_i2c (v := x_3) C dX11_printNumber_28 ex_3 ?_
    obtain ⟨qc, gs, hqc⟩ := tt_recv (cx := []) hok hk0 (by decide) rfl
    refine tt_callV (rest := []) C (rs_print hl D cA ak n24 x_3 hk0 hkw hka hkt hki hkf hkp (by first | omega | decide) (by first | omega | decide) hok hm hs24) [] [] rfl rfl (by decide) (by decide) (by decide) qc hqc rfl rfl jw_5467bceb3b jw_6617e6021e jw_7548414167 jw_f96c99f44d jw_b7d8894a18 jn_X11_print rfl (jj_le rfl) (jj_le rfl) (jj_le rfl) (jj_le rfl) (jj_le rfl) dX11_printNumber_29 rfl (fun _ _ _ hX => hX.elim) (fun rx pl_4 r O_8 => ?_)
    obtain ⟨rfl, hok_5, hr_6, ha_7, hR_9⟩ := O_8
    replace hm := hm.fr hr_6 hk0 rfl
    replace hfr := hfr.trans (hr_6.sub (by decide))
    replace hfa := hfa.trans (ha_7.sub (by decide))
    obtain ⟨n_10, hf_11, ln_10, un_10, rfl⟩ := hR_9
    exact jj_vret C ⟨[], pl_4, rfl, rfl, hok_5, hfr, hfa, ⟨n_10, hf_11, (by omega), (by omega), rfl⟩⟩ dX11_printNumber_32 (jj_le rfl) (jj_le rfl)
  · have z_c_1 := jc_nleL (a := p1.toInt) (b := 9) c_1 rfl (by decide)
    refine jj_aload_n C dX11_printNumber_8 rfl ?_
    refine jj_lload_n C dX11_printNumber_9 rfl ?_
    refine jj_ldc2 (v := 10) C dX11_printNumber_10 jw_f5f0bc6b7c ?_
    refine jj_ldiv C dX11_printNumber_13 (by decide) rfl ?_
    obtain ⟨qc, gs, hqc⟩ := tt_recv (cx := []) hok hk0 (by decide) rfl
    refine tt_callV (rest := []) C (rs_printNumber_10 hl D cA ak n24 (p1 / (10 : Int64)) hk0 hkw hka hkt hki hkf hkp (by first | omega | decide) (by first | omega | decide) (rz_d10 (b := 99999999999) (by omega) (by omega)) hok hm hs24) [] [] rfl rfl (by decide) (by decide) (by decide) qc hqc rfl rfl jw_bb61e96786 jw_d73f5cdc0e jw_e0101bc9a3 jw_f96c99f44d jw_48170ecb3c jn_X11_printNumber rfl (jj_le rfl) (jj_le rfl) (jj_le rfl) (jj_le rfl) (jj_le rfl) dX11_printNumber_14 rfl (fun _ _ _ hX => hX.elim) (fun rx pl_12 r O_16 => ?_)
    obtain ⟨rfl, hok_13, hr_14, ha_15, hR_17⟩ := O_16
    replace hm := hm.fr hr_14 hk0 rfl
    replace hfr := hfr.trans (hr_14.sub (by decide))
    replace hfa := hfa.trans (ha_15.sub (by decide))
    obtain ⟨n_18, hf_19, ln_18, un_18, rfl⟩ := hR_17
    refine jj_aload_n C dX11_printNumber_17 rfl ?_
    refine jj_ldc2 (v := 48) C dX11_printNumber_18 jw_d6cfdd4319 ?_
    refine jj_lload_n C dX11_printNumber_21 rfl ?_
    refine jj_ldc2 (v := 10) C dX11_printNumber_22 jw_f5f0bc6b7c ?_
    refine jj_lrem C dX11_printNumber_25 (by decide) rfl ?_
    refine jj_ladd C dX11_printNumber_26 rfl ?_
    obtain ⟨x_20, ex_20⟩ : ∃ z : Int32, ((48 : Int64) + (p1 - p1 / (10 : Int64) * (10 : Int64))).toInt32 = z := ⟨_, rfl⟩
    refine jj_l2i (v := x_20) C dX11_printNumber_27 ex_20 ?_
    obtain ⟨x_21, ex_21⟩ : ∃ z : Int32, (x_20.toUInt32 % 65536).toInt32 = z := ⟨_, rfl⟩
    refine jj_i2c (v := x_21) C dX11_printNumber_28 ex_21 ?_
    obtain ⟨qc, gs, hqc⟩ := tt_recv (cx := []) hok_13 hk0 (by decide) rfl
    refine tt_callV (rest := []) C (rs_print hl D cA ak n_18 x_21 hk0 hkw hka hkt hki hkf hkp (by first | omega | decide) (by first | omega | decide) hok_13 hm hf_19) [] [] rfl rfl (by decide) (by decide) (by decide) qc hqc rfl rfl jw_5467bceb3b jw_6617e6021e jw_7548414167 jw_f96c99f44d jw_b7d8894a18 jn_X11_print rfl (jj_le rfl) (jj_le rfl) (jj_le rfl) (jj_le rfl) (jj_le rfl) dX11_printNumber_29 rfl (fun _ _ _ hX => hX.elim) (fun rx pl_22 r O_26 => ?_)
    obtain ⟨rfl, hok_23, hr_24, ha_25, hR_27⟩ := O_26
    replace hm := hm.fr hr_24 hk0 rfl
    replace hfr := hfr.trans (hr_24.sub (by decide))
    replace hfa := hfa.trans (ha_25.sub (by decide))
    obtain ⟨n_28, hf_29, ln_28, un_28, rfl⟩ := hR_27
    exact jj_vret C ⟨[], pl_22, rfl, rfl, hok_23, hfr, hfa, ⟨n_28, hf_29, (by omega), (by omega), rfl⟩⟩ dX11_printNumber_32 (jj_le rfl) (jj_le rfl)

set_option maxHeartbeats 4000000 in
set_option maxRecDepth 100000 in
theorem rs_printNumber_12 {l : Launch} (hl : l.stackTraces = false) (D : va_G) (cA : Nat → ClassId) (ak : (Nat → Nat) × (Nat → Nat)) {Kd : Nat → Nat} {h0 aw aa at0 ai af ap : Nat} (n24 : Nat) (p1 : Int64) (hk0 : Kd h0 = 1) (hkw : Kd aw = 2) (hka : Kd aa = 3) (hkt : Kd at0 = 4) (hki : Kd ai = 5) (hkf : Kd af = 6) (hkp : Kd ap = 7) (ln24 : (0 : Int) ≤ (n24 : Int)) (un24 : (n24 : Int) ≤ 2387) (up1 : p1.toInt ≤ 9999999999999) {pl0 : va_W} (hok : tt_ok rt_tk cA Kd pl0) (hm : rl_m pl0 h0 aw aa at0 ai af ap) (hs24 : tt_at pl0 h0 24 (.int (nI n24))) : jj_M l D cA ak yX11_printNumber (.code yX11_printNumber cX11_printNumber 3 none) 13 285 0 0 ([] ++ pl0) [.ref h0, .long p1] (tt_O (fun rx pl1 r => rx = [] ∧ tt_ok rt_tk cA Kd pl1 ∧ tt_fr Kd [(1, 24)] pl0 pl1 ∧ tt_fa Kd [13] pl0 pl1 ∧ ((∃ m : Nat, tt_at pl1 h0 24 (.int (nI m)) ∧ n24 ≤ m ∧ m ≤ n24 + 13 ∧ r = none)))) (tt_OX (fun _ _ _ => False)) := by
  refine jj_start hl (by decide) jw_48170ecb3c (jj_le rfl) ?_
  intro p e s m args below meth c A hargs hA C hex hmn
  have hfr := tt_fr.refl (K := Kd) (WS := [(1, 24)]) pl0
  have hfa := tt_fa.refl (K := Kd) (WA := [13]) pl0
  refine jj_lload_n C dX11_printNumber_0 rfl ?_
  refine jj_ldc2 (v := 9) C dX11_printNumber_1 jw_9a85c015b2 ?_
  refine jj_lcmp_le (tgt := 17) C dX11_printNumber_4 dX11_printNumber_5 (by decide) (fun c_1 => ?_) (fun c_1 => ?_)
  · have z_c_1 := jc_leL (a := p1.toInt) (b := 9) c_1 rfl (by decide)
    refine jj_aload_n C dX11_printNumber_17 rfl ?_
    refine jj_ldc2 (v := 48) C dX11_printNumber_18 jw_d6cfdd4319 ?_
    refine jj_lload_n C dX11_printNumber_21 rfl ?_
    refine jj_ldc2 (v := 10) C dX11_printNumber_22 jw_f5f0bc6b7c ?_
    refine jj_lrem C dX11_printNumber_25 (by decide) rfl ?_
    refine jj_ladd C dX11_printNumber_26 rfl ?_
    obtain ⟨x_2, ex_2⟩ : ∃ z : Int32, ((48 : Int64) + (p1 - p1 / (10 : Int64) * (10 : Int64))).toInt32 = z := ⟨_, rfl⟩
    refine jj_l2i (v := x_2) C dX11_printNumber_27 ex_2 ?_
    obtain ⟨x_3, ex_3⟩ : ∃ z : Int32, (x_2.toUInt32 % 65536).toInt32 = z := ⟨_, rfl⟩
    refine jj_i2c (v := x_3) C dX11_printNumber_28 ex_3 ?_
    obtain ⟨qc, gs, hqc⟩ := tt_recv (cx := []) hok hk0 (by decide) rfl
    refine tt_callV (rest := []) C (rs_print hl D cA ak n24 x_3 hk0 hkw hka hkt hki hkf hkp (by first | omega | decide) (by first | omega | decide) hok hm hs24) [] [] rfl rfl (by decide) (by decide) (by decide) qc hqc rfl rfl jw_5467bceb3b jw_6617e6021e jw_7548414167 jw_f96c99f44d jw_b7d8894a18 jn_X11_print rfl (jj_le rfl) (jj_le rfl) (jj_le rfl) (jj_le rfl) (jj_le rfl) dX11_printNumber_29 rfl (fun _ _ _ hX => hX.elim) (fun rx pl_4 r O_8 => ?_)
    obtain ⟨rfl, hok_5, hr_6, ha_7, hR_9⟩ := O_8
    replace hm := hm.fr hr_6 hk0 rfl
    replace hfr := hfr.trans (hr_6.sub (by decide))
    replace hfa := hfa.trans (ha_7.sub (by decide))
    obtain ⟨n_10, hf_11, ln_10, un_10, rfl⟩ := hR_9
    exact jj_vret C ⟨[], pl_4, rfl, rfl, hok_5, hfr, hfa, ⟨n_10, hf_11, (by omega), (by omega), rfl⟩⟩ dX11_printNumber_32 (jj_le rfl) (jj_le rfl)
  · have z_c_1 := jc_nleL (a := p1.toInt) (b := 9) c_1 rfl (by decide)
    refine jj_aload_n C dX11_printNumber_8 rfl ?_
    refine jj_lload_n C dX11_printNumber_9 rfl ?_
    refine jj_ldc2 (v := 10) C dX11_printNumber_10 jw_f5f0bc6b7c ?_
    refine jj_ldiv C dX11_printNumber_13 (by decide) rfl ?_
    obtain ⟨qc, gs, hqc⟩ := tt_recv (cx := []) hok hk0 (by decide) rfl
    refine tt_callV (rest := []) C (rs_printNumber_11 hl D cA ak n24 (p1 / (10 : Int64)) hk0 hkw hka hkt hki hkf hkp (by first | omega | decide) (by first | omega | decide) (rz_d10 (b := 999999999999) (by omega) (by omega)) hok hm hs24) [] [] rfl rfl (by decide) (by decide) (by decide) qc hqc rfl rfl jw_bb61e96786 jw_d73f5cdc0e jw_e0101bc9a3 jw_f96c99f44d jw_48170ecb3c jn_X11_printNumber rfl (jj_le rfl) (jj_le rfl) (jj_le rfl) (jj_le rfl) (jj_le rfl) dX11_printNumber_14 rfl (fun _ _ _ hX => hX.elim) (fun rx pl_12 r O_16 => ?_)
    obtain ⟨rfl, hok_13, hr_14, ha_15, hR_17⟩ := O_16
    replace hm := hm.fr hr_14 hk0 rfl
    replace hfr := hfr.trans (hr_14.sub (by decide))
    replace hfa := hfa.trans (ha_15.sub (by decide))
    obtain ⟨n_18, hf_19, ln_18, un_18, rfl⟩ := hR_17
    refine jj_aload_n C dX11_printNumber_17 rfl ?_
    refine jj_ldc2 (v := 48) C dX11_printNumber_18 jw_d6cfdd4319 ?_
    refine jj_lload_n C dX11_printNumber_21 rfl ?_
    refine jj_ldc2 (v := 10) C dX11_printNumber_22 jw_f5f0bc6b7c ?_
    refine jj_lrem C dX11_printNumber_25 (by decide) rfl ?_
    refine jj_ladd C dX11_printNumber_26 rfl ?_
    obtain ⟨x_20, ex_20⟩ : ∃ z : Int32, ((48 : Int64) + (p1 - p1 / (10 : Int64) * (10 : Int64))).toInt32 = z := ⟨_, rfl⟩
    refine jj_l2i (v := x_20) C dX11_printNumber_27 ex_20 ?_
    obtain ⟨x_21, ex_21⟩ : ∃ z : Int32, (x_20.toUInt32 % 65536).toInt32 = z := ⟨_, rfl⟩
    refine jj_i2c (v := x_21) C dX11_printNumber_28 ex_21 ?_
    obtain ⟨qc, gs, hqc⟩ := tt_recv (cx := []) hok_13 hk0 (by decide) rfl
    refine tt_callV (rest := []) C (rs_print hl D cA ak n_18 x_21 hk0 hkw hka hkt hki hkf hkp (by first | omega | decide) (by first | omega | decide) hok_13 hm hf_19) [] [] rfl rfl (by decide) (by decide) (by decide) qc hqc rfl rfl jw_5467bceb3b jw_6617e6021e jw_7548414167 jw_f96c99f44d jw_b7d8894a18 jn_X11_print rfl (jj_le rfl) (jj_le rfl) (jj_le rfl) (jj_le rfl) (jj_le rfl) dX11_printNumber_29 rfl (fun _ _ _ hX => hX.elim) (fun rx pl_22 r O_26 => ?_)
    obtain ⟨rfl, hok_23, hr_24, ha_25, hR_27⟩ := O_26
    replace hm := hm.fr hr_24 hk0 rfl
    replace hfr := hfr.trans (hr_24.sub (by decide))
    replace hfa := hfa.trans (ha_25.sub (by decide))
    obtain ⟨n_28, hf_29, ln_28, un_28, rfl⟩ := hR_27
    exact jj_vret C ⟨[], pl_22, rfl, rfl, hok_23, hfr, hfa, ⟨n_28, hf_29, (by omega), (by omega), rfl⟩⟩ dX11_printNumber_32 (jj_le rfl) (jj_le rfl)

set_option maxHeartbeats 4000000 in
set_option maxRecDepth 100000 in
theorem rs_printNumber_13 {l : Launch} (hl : l.stackTraces = false) (D : va_G) (cA : Nat → ClassId) (ak : (Nat → Nat) × (Nat → Nat)) {Kd : Nat → Nat} {h0 aw aa at0 ai af ap : Nat} (n24 : Nat) (p1 : Int64) (hk0 : Kd h0 = 1) (hkw : Kd aw = 2) (hka : Kd aa = 3) (hkt : Kd at0 = 4) (hki : Kd ai = 5) (hkf : Kd af = 6) (hkp : Kd ap = 7) (ln24 : (0 : Int) ≤ (n24 : Int)) (un24 : (n24 : Int) ≤ 2386) (up1 : p1.toInt ≤ 99999999999999) {pl0 : va_W} (hok : tt_ok rt_tk cA Kd pl0) (hm : rl_m pl0 h0 aw aa at0 ai af ap) (hs24 : tt_at pl0 h0 24 (.int (nI n24))) : jj_M l D cA ak yX11_printNumber (.code yX11_printNumber cX11_printNumber 3 none) 14 307 0 0 ([] ++ pl0) [.ref h0, .long p1] (tt_O (fun rx pl1 r => rx = [] ∧ tt_ok rt_tk cA Kd pl1 ∧ tt_fr Kd [(1, 24)] pl0 pl1 ∧ tt_fa Kd [13] pl0 pl1 ∧ ((∃ m : Nat, tt_at pl1 h0 24 (.int (nI m)) ∧ n24 ≤ m ∧ m ≤ n24 + 14 ∧ r = none)))) (tt_OX (fun _ _ _ => False)) := by
  refine jj_start hl (by decide) jw_48170ecb3c (jj_le rfl) ?_
  intro p e s m args below meth c A hargs hA C hex hmn
  have hfr := tt_fr.refl (K := Kd) (WS := [(1, 24)]) pl0
  have hfa := tt_fa.refl (K := Kd) (WA := [13]) pl0
  refine jj_lload_n C dX11_printNumber_0 rfl ?_
  refine jj_ldc2 (v := 9) C dX11_printNumber_1 jw_9a85c015b2 ?_
  refine jj_lcmp_le (tgt := 17) C dX11_printNumber_4 dX11_printNumber_5 (by decide) (fun c_1 => ?_) (fun c_1 => ?_)
  · have z_c_1 := jc_leL (a := p1.toInt) (b := 9) c_1 rfl (by decide)
    refine jj_aload_n C dX11_printNumber_17 rfl ?_
    refine jj_ldc2 (v := 48) C dX11_printNumber_18 jw_d6cfdd4319 ?_
    refine jj_lload_n C dX11_printNumber_21 rfl ?_
    refine jj_ldc2 (v := 10) C dX11_printNumber_22 jw_f5f0bc6b7c ?_
    refine jj_lrem C dX11_printNumber_25 (by decide) rfl ?_
    refine jj_ladd C dX11_printNumber_26 rfl ?_
    obtain ⟨x_2, ex_2⟩ : ∃ z : Int32, ((48 : Int64) + (p1 - p1 / (10 : Int64) * (10 : Int64))).toInt32 = z := ⟨_, rfl⟩
    refine jj_l2i (v := x_2) C dX11_printNumber_27 ex_2 ?_
    obtain ⟨x_3, ex_3⟩ : ∃ z : Int32, (x_2.toUInt32 % 65536).toInt32 = z := ⟨_, rfl⟩
    refine jj_i2c (v := x_3) C dX11_printNumber_28 ex_3 ?_
    obtain ⟨qc, gs, hqc⟩ := tt_recv (cx := []) hok hk0 (by decide) rfl
    refine tt_callV (rest := []) C (rs_print hl D cA ak n24 x_3 hk0 hkw hka hkt hki hkf hkp (by first | omega | decide) (by first | omega | decide) hok hm hs24) [] [] rfl rfl (by decide) (by decide) (by decide) qc hqc rfl rfl jw_5467bceb3b jw_6617e6021e jw_7548414167 jw_f96c99f44d jw_b7d8894a18 jn_X11_print rfl (jj_le rfl) (jj_le rfl) (jj_le rfl) (jj_le rfl) (jj_le rfl) dX11_printNumber_29 rfl (fun _ _ _ hX => hX.elim) (fun rx pl_4 r O_8 => ?_)
    obtain ⟨rfl, hok_5, hr_6, ha_7, hR_9⟩ := O_8
    replace hm := hm.fr hr_6 hk0 rfl
    replace hfr := hfr.trans (hr_6.sub (by decide))
    replace hfa := hfa.trans (ha_7.sub (by decide))
    obtain ⟨n_10, hf_11, ln_10, un_10, rfl⟩ := hR_9
    exact jj_vret C ⟨[], pl_4, rfl, rfl, hok_5, hfr, hfa, ⟨n_10, hf_11, (by omega), (by omega), rfl⟩⟩ dX11_printNumber_32 (jj_le rfl) (jj_le rfl)
  · have z_c_1 := jc_nleL (a := p1.toInt) (b := 9) c_1 rfl (by decide)
    refine jj_aload_n C dX11_printNumber_8 rfl ?_
    refine jj_lload_n C dX11_printNumber_9 rfl ?_
    refine jj_ldc2 (v := 10) C dX11_printNumber_10 jw_f5f0bc6b7c ?_
    refine jj_ldiv C dX11_printNumber_13 (by decide) rfl ?_
    obtain ⟨qc, gs, hqc⟩ := tt_recv (cx := []) hok hk0 (by decide) rfl
    refine tt_callV (rest := []) C (rs_printNumber_12 hl D cA ak n24 (p1 / (10 : Int64)) hk0 hkw hka hkt hki hkf hkp (by first | omega | decide) (by first | omega | decide) (rz_d10 (b := 9999999999999) (by omega) (by omega)) hok hm hs24) [] [] rfl rfl (by decide) (by decide) (by decide) qc hqc rfl rfl jw_bb61e96786 jw_d73f5cdc0e jw_e0101bc9a3 jw_f96c99f44d jw_48170ecb3c jn_X11_printNumber rfl (jj_le rfl) (jj_le rfl) (jj_le rfl) (jj_le rfl) (jj_le rfl) dX11_printNumber_14 rfl (fun _ _ _ hX => hX.elim) (fun rx pl_12 r O_16 => ?_)
    obtain ⟨rfl, hok_13, hr_14, ha_15, hR_17⟩ := O_16
    replace hm := hm.fr hr_14 hk0 rfl
    replace hfr := hfr.trans (hr_14.sub (by decide))
    replace hfa := hfa.trans (ha_15.sub (by decide))
    obtain ⟨n_18, hf_19, ln_18, un_18, rfl⟩ := hR_17
    refine jj_aload_n C dX11_printNumber_17 rfl ?_
    refine jj_ldc2 (v := 48) C dX11_printNumber_18 jw_d6cfdd4319 ?_
    refine jj_lload_n C dX11_printNumber_21 rfl ?_
    refine jj_ldc2 (v := 10) C dX11_printNumber_22 jw_f5f0bc6b7c ?_
    refine jj_lrem C dX11_printNumber_25 (by decide) rfl ?_
    refine jj_ladd C dX11_printNumber_26 rfl ?_
    obtain ⟨x_20, ex_20⟩ : ∃ z : Int32, ((48 : Int64) + (p1 - p1 / (10 : Int64) * (10 : Int64))).toInt32 = z := ⟨_, rfl⟩
    refine jj_l2i (v := x_20) C dX11_printNumber_27 ex_20 ?_
    obtain ⟨x_21, ex_21⟩ : ∃ z : Int32, (x_20.toUInt32 % 65536).toInt32 = z := ⟨_, rfl⟩
    refine jj_i2c (v := x_21) C dX11_printNumber_28 ex_21 ?_
    obtain ⟨qc, gs, hqc⟩ := tt_recv (cx := []) hok_13 hk0 (by decide) rfl
    refine tt_callV (rest := []) C (rs_print hl D cA ak n_18 x_21 hk0 hkw hka hkt hki hkf hkp (by first | omega | decide) (by first | omega | decide) hok_13 hm hf_19) [] [] rfl rfl (by decide) (by decide) (by decide) qc hqc rfl rfl jw_5467bceb3b jw_6617e6021e jw_7548414167 jw_f96c99f44d jw_b7d8894a18 jn_X11_print rfl (jj_le rfl) (jj_le rfl) (jj_le rfl) (jj_le rfl) (jj_le rfl) dX11_printNumber_29 rfl (fun _ _ _ hX => hX.elim) (fun rx pl_22 r O_26 => ?_)
    obtain ⟨rfl, hok_23, hr_24, ha_25, hR_27⟩ := O_26
    replace hm := hm.fr hr_24 hk0 rfl
    replace hfr := hfr.trans (hr_24.sub (by decide))
    replace hfa := hfa.trans (ha_25.sub (by decide))
    obtain ⟨n_28, hf_29, ln_28, un_28, rfl⟩ := hR_27
    exact jj_vret C ⟨[], pl_22, rfl, rfl, hok_23, hfr, hfa, ⟨n_28, hf_29, (by omega), (by omega), rfl⟩⟩ dX11_printNumber_32 (jj_le rfl) (jj_le rfl)

set_option maxHeartbeats 4000000 in
set_option maxRecDepth 100000 in
theorem rs_printNumber_14 {l : Launch} (hl : l.stackTraces = false) (D : va_G) (cA : Nat → ClassId) (ak : (Nat → Nat) × (Nat → Nat)) {Kd : Nat → Nat} {h0 aw aa at0 ai af ap : Nat} (n24 : Nat) (p1 : Int64) (hk0 : Kd h0 = 1) (hkw : Kd aw = 2) (hka : Kd aa = 3) (hkt : Kd at0 = 4) (hki : Kd ai = 5) (hkf : Kd af = 6) (hkp : Kd ap = 7) (ln24 : (0 : Int) ≤ (n24 : Int)) (un24 : (n24 : Int) ≤ 2385) (up1 : p1.toInt ≤ 999999999999999) {pl0 : va_W} (hok : tt_ok rt_tk cA Kd pl0) (hm : rl_m pl0 h0 aw aa at0 ai af ap) (hs24 : tt_at pl0 h0 24 (.int (nI n24))) : jj_M l D cA ak yX11_printNumber (.code yX11_printNumber cX11_printNumber 3 none) 15 329 0 0 ([] ++ pl0) [.ref h0, .long p1] (tt_O (fun rx pl1 r => rx = [] ∧ tt_ok rt_tk cA Kd pl1 ∧ tt_fr Kd [(1, 24)] pl0 pl1 ∧ tt_fa Kd [13] pl0 pl1 ∧ ((∃ m : Nat, tt_at pl1 h0 24 (.int (nI m)) ∧ n24 ≤ m ∧ m ≤ n24 + 15 ∧ r = none)))) (tt_OX (fun _ _ _ => False)) := by
  refine jj_start hl (by decide) jw_48170ecb3c (jj_le rfl) ?_
  intro p e s m args below meth c A hargs hA C hex hmn
  have hfr := tt_fr.refl (K := Kd) (WS := [(1, 24)]) pl0
  have hfa := tt_fa.refl (K := Kd) (WA := [13]) pl0
  refine jj_lload_n C dX11_printNumber_0 rfl ?_
  refine jj_ldc2 (v := 9) C dX11_printNumber_1 jw_9a85c015b2 ?_
  refine jj_lcmp_le (tgt := 17) C dX11_printNumber_4 dX11_printNumber_5 (by decide) (fun c_1 => ?_) (fun c_1 => ?_)
  · have z_c_1 := jc_leL (a := p1.toInt) (b := 9) c_1 rfl (by decide)
    refine jj_aload_n C dX11_printNumber_17 rfl ?_
    refine jj_ldc2 (v := 48) C dX11_printNumber_18 jw_d6cfdd4319 ?_
    refine jj_lload_n C dX11_printNumber_21 rfl ?_
    refine jj_ldc2 (v := 10) C dX11_printNumber_22 jw_f5f0bc6b7c ?_
    refine jj_lrem C dX11_printNumber_25 (by decide) rfl ?_
    refine jj_ladd C dX11_printNumber_26 rfl ?_
    obtain ⟨x_2, ex_2⟩ : ∃ z : Int32, ((48 : Int64) + (p1 - p1 / (10 : Int64) * (10 : Int64))).toInt32 = z := ⟨_, rfl⟩
    refine jj_l2i (v := x_2) C dX11_printNumber_27 ex_2 ?_
    obtain ⟨x_3, ex_3⟩ : ∃ z : Int32, (x_2.toUInt32 % 65536).toInt32 = z := ⟨_, rfl⟩
    refine jj_i2c (v := x_3) C dX11_printNumber_28 ex_3 ?_
    obtain ⟨qc, gs, hqc⟩ := tt_recv (cx := []) hok hk0 (by decide) rfl
    refine tt_callV (rest := []) C (rs_print hl D cA ak n24 x_3 hk0 hkw hka hkt hki hkf hkp (by first | omega | decide) (by first | omega | decide) hok hm hs24) [] [] rfl rfl (by decide) (by decide) (by decide) qc hqc rfl rfl jw_5467bceb3b jw_6617e6021e jw_7548414167 jw_f96c99f44d jw_b7d8894a18 jn_X11_print rfl (jj_le rfl) (jj_le rfl) (jj_le rfl) (jj_le rfl) (jj_le rfl) dX11_printNumber_29 rfl (fun _ _ _ hX => hX.elim) (fun rx pl_4 r O_8 => ?_)
    obtain ⟨rfl, hok_5, hr_6, ha_7, hR_9⟩ := O_8
    replace hm := hm.fr hr_6 hk0 rfl
    replace hfr := hfr.trans (hr_6.sub (by decide))
    replace hfa := hfa.trans (ha_7.sub (by decide))
    obtain ⟨n_10, hf_11, ln_10, un_10, rfl⟩ := hR_9
    exact jj_vret C ⟨[], pl_4, rfl, rfl, hok_5, hfr, hfa, ⟨n_10, hf_11, (by omega), (by omega), rfl⟩⟩ dX11_printNumber_32 (jj_le rfl) (jj_le rfl)
  · have z_c_1 := jc_nleL (a := p1.toInt) (b := 9) c_1 rfl (by decide)
    refine jj_aload_n C dX11_printNumber_8 rfl ?_
    refine jj_lload_n C dX11_printNumber_9 rfl ?_
    refine jj_ldc2 (v := 10) C dX11_printNumber_10 jw_f5f0bc6b7c ?_
    refine jj_ldiv C dX11_printNumber_13 (by decide) rfl ?_
    obtain ⟨qc, gs, hqc⟩ := tt_recv (cx := []) hok hk0 (by decide) rfl
    refine tt_callV (rest := []) C (rs_printNumber_13 hl D cA ak n24 (p1 / (10 : Int64)) hk0 hkw hka hkt hki hkf hkp (by first | omega | decide) (by first | omega | decide) (rz_d10 (b := 99999999999999) (by omega) (by omega)) hok hm hs24) [] [] rfl rfl (by decide) (by decide) (by decide) qc hqc rfl rfl jw_bb61e96786 jw_d73f5cdc0e jw_e0101bc9a3 jw_f96c99f44d jw_48170ecb3c jn_X11_printNumber rfl (jj_le rfl) (jj_le rfl) (jj_le rfl) (jj_le rfl) (jj_le rfl) dX11_printNumber_14 rfl (fun _ _ _ hX => hX.elim) (fun rx pl_12 r O_16 => ?_)
    obtain ⟨rfl, hok_13, hr_14, ha_15, hR_17⟩ := O_16
    replace hm := hm.fr hr_14 hk0 rfl
    replace hfr := hfr.trans (hr_14.sub (by decide))
    replace hfa := hfa.trans (ha_15.sub (by decide))
    obtain ⟨n_18, hf_19, ln_18, un_18, rfl⟩ := hR_17
    refine jj_aload_n C dX11_printNumber_17 rfl ?_
    refine jj_ldc2 (v := 48) C dX11_printNumber_18 jw_d6cfdd4319 ?_
    refine jj_lload_n C dX11_printNumber_21 rfl ?_
    refine jj_ldc2 (v := 10) C dX11_printNumber_22 jw_f5f0bc6b7c ?_
    refine jj_lrem C dX11_printNumber_25 (by decide) rfl ?_
    refine jj_ladd C dX11_printNumber_26 rfl ?_
    obtain ⟨x_20, ex_20⟩ : ∃ z : Int32, ((48 : Int64) + (p1 - p1 / (10 : Int64) * (10 : Int64))).toInt32 = z := ⟨_, rfl⟩
    refine jj_l2i (v := x_20) C dX11_printNumber_27 ex_20 ?_
    obtain ⟨x_21, ex_21⟩ : ∃ z : Int32, (x_20.toUInt32 % 65536).toInt32 = z := ⟨_, rfl⟩
    refine jj_i2c (v := x_21) C dX11_printNumber_28 ex_21 ?_
    obtain ⟨qc, gs, hqc⟩ := tt_recv (cx := []) hok_13 hk0 (by decide) rfl
    refine tt_callV (rest := []) C (rs_print hl D cA ak n_18 x_21 hk0 hkw hka hkt hki hkf hkp (by first | omega | decide) (by first | omega | decide) hok_13 hm hf_19) [] [] rfl rfl (by decide) (by decide) (by decide) qc hqc rfl rfl jw_5467bceb3b jw_6617e6021e jw_7548414167 jw_f96c99f44d jw_b7d8894a18 jn_X11_print rfl (jj_le rfl) (jj_le rfl) (jj_le rfl) (jj_le rfl) (jj_le rfl) dX11_printNumber_29 rfl (fun _ _ _ hX => hX.elim) (fun rx pl_22 r O_26 => ?_)
    obtain ⟨rfl, hok_23, hr_24, ha_25, hR_27⟩ := O_26
    replace hm := hm.fr hr_24 hk0 rfl
    replace hfr := hfr.trans (hr_24.sub (by decide))
    replace hfa := hfa.trans (ha_25.sub (by decide))
    obtain ⟨n_28, hf_29, ln_28, un_28, rfl⟩ := hR_27
    exact jj_vret C ⟨[], pl_22, rfl, rfl, hok_23, hfr, hfa, ⟨n_28, hf_29, (by omega), (by omega), rfl⟩⟩ dX11_printNumber_32 (jj_le rfl) (jj_le rfl)

set_option maxHeartbeats 4000000 in
set_option maxRecDepth 100000 in
theorem rs_printNumber_15 {l : Launch} (hl : l.stackTraces = false) (D : va_G) (cA : Nat → ClassId) (ak : (Nat → Nat) × (Nat → Nat)) {Kd : Nat → Nat} {h0 aw aa at0 ai af ap : Nat} (n24 : Nat) (p1 : Int64) (hk0 : Kd h0 = 1) (hkw : Kd aw = 2) (hka : Kd aa = 3) (hkt : Kd at0 = 4) (hki : Kd ai = 5) (hkf : Kd af = 6) (hkp : Kd ap = 7) (ln24 : (0 : Int) ≤ (n24 : Int)) (un24 : (n24 : Int) ≤ 2384) (up1 : p1.toInt ≤ 9999999999999999) {pl0 : va_W} (hok : tt_ok rt_tk cA Kd pl0) (hm : rl_m pl0 h0 aw aa at0 ai af ap) (hs24 : tt_at pl0 h0 24 (.int (nI n24))) : jj_M l D cA ak yX11_printNumber (.code yX11_printNumber cX11_printNumber 3 none) 16 351 0 0 ([] ++ pl0) [.ref h0, .long p1] (tt_O (fun rx pl1 r => rx = [] ∧ tt_ok rt_tk cA Kd pl1 ∧ tt_fr Kd [(1, 24)] pl0 pl1 ∧ tt_fa Kd [13] pl0 pl1 ∧ ((∃ m : Nat, tt_at pl1 h0 24 (.int (nI m)) ∧ n24 ≤ m ∧ m ≤ n24 + 16 ∧ r = none)))) (tt_OX (fun _ _ _ => False)) := by
  refine jj_start hl (by decide) jw_48170ecb3c (jj_le rfl) ?_
  intro p e s m args below meth c A hargs hA C hex hmn
  have hfr := tt_fr.refl (K := Kd) (WS := [(1, 24)]) pl0
  have hfa := tt_fa.refl (K := Kd) (WA := [13]) pl0
  refine jj_lload_n C dX11_printNumber_0 rfl ?_
  refine jj_ldc2 (v := 9) C dX11_printNumber_1 jw_9a85c015b2 ?_
  refine jj_lcmp_le (tgt := 17) C dX11_printNumber_4 dX11_printNumber_5 (by decide) (fun c_1 => ?_) (fun c_1 => ?_)
  · have z_c_1 := jc_leL (a := p1.toInt) (b := 9) c_1 rfl (by decide)
    refine jj_aload_n C dX11_printNumber_17 rfl ?_
    refine jj_ldc2 (v := 48) C dX11_printNumber_18 jw_d6cfdd4319 ?_
    refine jj_lload_n C dX11_printNumber_21 rfl ?_
    refine jj_ldc2 (v := 10) C dX11_printNumber_22 jw_f5f0bc6b7c ?_
    refine jj_lrem C dX11_printNumber_25 (by decide) rfl ?_
    refine jj_ladd C dX11_printNumber_26 rfl ?_
    obtain ⟨x_2, ex_2⟩ : ∃ z : Int32, ((48 : Int64) + (p1 - p1 / (10 : Int64) * (10 : Int64))).toInt32 = z := ⟨_, rfl⟩
    refine jj_l2i (v := x_2) C dX11_printNumber_27 ex_2 ?_
    obtain ⟨x_3, ex_3⟩ : ∃ z : Int32, (x_2.toUInt32 % 65536).toInt32 = z := ⟨_, rfl⟩
    refine jj_i2c (v := x_3) C dX11_printNumber_28 ex_3 ?_
    obtain ⟨qc, gs, hqc⟩ := tt_recv (cx := []) hok hk0 (by decide) rfl
    refine tt_callV (rest := []) C (rs_print hl D cA ak n24 x_3 hk0 hkw hka hkt hki hkf hkp (by first | omega | decide) (by first | omega | decide) hok hm hs24) [] [] rfl rfl (by decide) (by decide) (by decide) qc hqc rfl rfl jw_5467bceb3b jw_6617e6021e jw_7548414167 jw_f96c99f44d jw_b7d8894a18 jn_X11_print rfl (jj_le rfl) (jj_le rfl) (jj_le rfl) (jj_le rfl) (jj_le rfl) dX11_printNumber_29 rfl (fun _ _ _ hX => hX.elim) (fun rx pl_4 r O_8 => ?_)
    obtain ⟨rfl, hok_5, hr_6, ha_7, hR_9⟩ := O_8
    replace hm := hm.fr hr_6 hk0 rfl
    replace hfr := hfr.trans (hr_6.sub (by decide))
    replace hfa := hfa.trans (ha_7.sub (by decide))
    obtain ⟨n_10, hf_11, ln_10, un_10, rfl⟩ := hR_9
    exact jj_vret C ⟨[], pl_4, rfl, rfl, hok_5, hfr, hfa, ⟨n_10, hf_11, (by omega), (by omega), rfl⟩⟩ dX11_printNumber_32 (jj_le rfl) (jj_le rfl)
  · have z_c_1 := jc_nleL (a := p1.toInt) (b := 9) c_1 rfl (by decide)
    refine jj_aload_n C dX11_printNumber_8 rfl ?_
    refine jj_lload_n C dX11_printNumber_9 rfl ?_
    refine jj_ldc2 (v := 10) C dX11_printNumber_10 jw_f5f0bc6b7c ?_
    refine jj_ldiv C dX11_printNumber_13 (by decide) rfl ?_
    obtain ⟨qc, gs, hqc⟩ := tt_recv (cx := []) hok hk0 (by decide) rfl
    refine tt_callV (rest := []) C (rs_printNumber_14 hl D cA ak n24 (p1 / (10 : Int64)) hk0 hkw hka hkt hki hkf hkp (by first | omega | decide) (by first | omega | decide) (rz_d10 (b := 999999999999999) (by omega) (by omega)) hok hm hs24) [] [] rfl rfl (by decide) (by decide) (by decide) qc hqc rfl rfl jw_bb61e96786 jw_d73f5cdc0e jw_e0101bc9a3 jw_f96c99f44d jw_48170ecb3c jn_X11_printNumber rfl (jj_le rfl) (jj_le rfl) (jj_le rfl) (jj_le rfl) (jj_le rfl) dX11_printNumber_14 rfl (fun _ _ _ hX => hX.elim) (fun rx pl_12 r O_16 => ?_)
    obtain ⟨rfl, hok_13, hr_14, ha_15, hR_17⟩ := O_16
    replace hm := hm.fr hr_14 hk0 rfl
    replace hfr := hfr.trans (hr_14.sub (by decide))
    replace hfa := hfa.trans (ha_15.sub (by decide))
    obtain ⟨n_18, hf_19, ln_18, un_18, rfl⟩ := hR_17
    refine jj_aload_n C dX11_printNumber_17 rfl ?_
    refine jj_ldc2 (v := 48) C dX11_printNumber_18 jw_d6cfdd4319 ?_
    refine jj_lload_n C dX11_printNumber_21 rfl ?_
    refine jj_ldc2 (v := 10) C dX11_printNumber_22 jw_f5f0bc6b7c ?_
    refine jj_lrem C dX11_printNumber_25 (by decide) rfl ?_
    refine jj_ladd C dX11_printNumber_26 rfl ?_
    obtain ⟨x_20, ex_20⟩ : ∃ z : Int32, ((48 : Int64) + (p1 - p1 / (10 : Int64) * (10 : Int64))).toInt32 = z := ⟨_, rfl⟩
    refine jj_l2i (v := x_20) C dX11_printNumber_27 ex_20 ?_
    obtain ⟨x_21, ex_21⟩ : ∃ z : Int32, (x_20.toUInt32 % 65536).toInt32 = z := ⟨_, rfl⟩
    refine jj_i2c (v := x_21) C dX11_printNumber_28 ex_21 ?_
    obtain ⟨qc, gs, hqc⟩ := tt_recv (cx := []) hok_13 hk0 (by decide) rfl
    refine tt_callV (rest := []) C (rs_print hl D cA ak n_18 x_21 hk0 hkw hka hkt hki hkf hkp (by first | omega | decide) (by first | omega | decide) hok_13 hm hf_19) [] [] rfl rfl (by decide) (by decide) (by decide) qc hqc rfl rfl jw_5467bceb3b jw_6617e6021e jw_7548414167 jw_f96c99f44d jw_b7d8894a18 jn_X11_print rfl (jj_le rfl) (jj_le rfl) (jj_le rfl) (jj_le rfl) (jj_le rfl) dX11_printNumber_29 rfl (fun _ _ _ hX => hX.elim) (fun rx pl_22 r O_26 => ?_)
    obtain ⟨rfl, hok_23, hr_24, ha_25, hR_27⟩ := O_26
    replace hm := hm.fr hr_24 hk0 rfl
    replace hfr := hfr.trans (hr_24.sub (by decide))
    replace hfa := hfa.trans (ha_25.sub (by decide))
    obtain ⟨n_28, hf_29, ln_28, un_28, rfl⟩ := hR_27
    exact jj_vret C ⟨[], pl_22, rfl, rfl, hok_23, hfr, hfa, ⟨n_28, hf_29, (by omega), (by omega), rfl⟩⟩ dX11_printNumber_32 (jj_le rfl) (jj_le rfl)

set_option maxHeartbeats 4000000 in
set_option maxRecDepth 100000 in
theorem rs_printNumber_16 {l : Launch} (hl : l.stackTraces = false) (D : va_G) (cA : Nat → ClassId) (ak : (Nat → Nat) × (Nat → Nat)) {Kd : Nat → Nat} {h0 aw aa at0 ai af ap : Nat} (n24 : Nat) (p1 : Int64) (hk0 : Kd h0 = 1) (hkw : Kd aw = 2) (hka : Kd aa = 3) (hkt : Kd at0 = 4) (hki : Kd ai = 5) (hkf : Kd af = 6) (hkp : Kd ap = 7) (ln24 : (0 : Int) ≤ (n24 : Int)) (un24 : (n24 : Int) ≤ 2383) (up1 : p1.toInt ≤ 99999999999999999) {pl0 : va_W} (hok : tt_ok rt_tk cA Kd pl0) (hm : rl_m pl0 h0 aw aa at0 ai af ap) (hs24 : tt_at pl0 h0 24 (.int (nI n24))) : jj_M l D cA ak yX11_printNumber (.code yX11_printNumber cX11_printNumber 3 none) 17 373 0 0 ([] ++ pl0) [.ref h0, .long p1] (tt_O (fun rx pl1 r => rx = [] ∧ tt_ok rt_tk cA Kd pl1 ∧ tt_fr Kd [(1, 24)] pl0 pl1 ∧ tt_fa Kd [13] pl0 pl1 ∧ ((∃ m : Nat, tt_at pl1 h0 24 (.int (nI m)) ∧ n24 ≤ m ∧ m ≤ n24 + 17 ∧ r = none)))) (tt_OX (fun _ _ _ => False)) := by
  refine jj_start hl (by decide) jw_48170ecb3c (jj_le rfl) ?_
  intro p e s m args below meth c A hargs hA C hex hmn
  have hfr := tt_fr.refl (K := Kd) (WS := [(1, 24)]) pl0
  have hfa := tt_fa.refl (K := Kd) (WA := [13]) pl0
  refine jj_lload_n C dX11_printNumber_0 rfl ?_
  refine jj_ldc2 (v := 9) C dX11_printNumber_1 jw_9a85c015b2 ?_
  refine jj_lcmp_le (tgt := 17) C dX11_printNumber_4 dX11_printNumber_5 (by decide) (fun c_1 => ?_) (fun c_1 => ?_)
  · have z_c_1 := jc_leL (a := p1.toInt) (b := 9) c_1 rfl (by decide)
    refine jj_aload_n C dX11_printNumber_17 rfl ?_
    refine jj_ldc2 (v := 48) C dX11_printNumber_18 jw_d6cfdd4319 ?_
    refine jj_lload_n C dX11_printNumber_21 rfl ?_
    refine jj_ldc2 (v := 10) C dX11_printNumber_22 jw_f5f0bc6b7c ?_
    refine jj_lrem C dX11_printNumber_25 (by decide) rfl ?_
    refine jj_ladd C dX11_printNumber_26 rfl ?_
    obtain ⟨x_2, ex_2⟩ : ∃ z : Int32, ((48 : Int64) + (p1 - p1 / (10 : Int64) * (10 : Int64))).toInt32 = z := ⟨_, rfl⟩
    refine jj_l2i (v := x_2) C dX11_printNumber_27 ex_2 ?_
    obtain ⟨x_3, ex_3⟩ : ∃ z : Int32, (x_2.toUInt32 % 65536).toInt32 = z := ⟨_, rfl⟩
    refine jj_i2c (v := x_3) C dX11_printNumber_28 ex_3 ?_
    obtain ⟨qc, gs, hqc⟩ := tt_recv (cx := []) hok hk0 (by decide) rfl
    refine tt_callV (rest := []) C (rs_print hl D cA ak n24 x_3 hk0 hkw hka hkt hki hkf hkp (by first | omega | decide) (by first | omega | decide) hok hm hs24) [] [] rfl rfl (by decide) (by decide) (by decide) qc hqc rfl rfl jw_5467bceb3b jw_6617e6021e jw_7548414167 jw_f96c99f44d jw_b7d8894a18 jn_X11_print rfl (jj_le rfl) (jj_le rfl) (jj_le rfl) (jj_le rfl) (jj_le rfl) dX11_printNumber_29 rfl (fun _ _ _ hX => hX.elim) (fun rx pl_4 r O_8 => ?_)
    obtain ⟨rfl, hok_5, hr_6, ha_7, hR_9⟩ := O_8
    replace hm := hm.fr hr_6 hk0 rfl
    replace hfr := hfr.trans (hr_6.sub (by decide))
    replace hfa := hfa.trans (ha_7.sub (by decide))
    obtain ⟨n_10, hf_11, ln_10, un_10, rfl⟩ := hR_9
    exact jj_vret C ⟨[], pl_4, rfl, rfl, hok_5, hfr, hfa, ⟨n_10, hf_11, (by omega), (by omega), rfl⟩⟩ dX11_printNumber_32 (jj_le rfl) (jj_le rfl)
  · have z_c_1 := jc_nleL (a := p1.toInt) (b := 9) c_1 rfl (by decide)
    refine jj_aload_n C dX11_printNumber_8 rfl ?_
    refine jj_lload_n C dX11_printNumber_9 rfl ?_
    refine jj_ldc2 (v := 10) C dX11_printNumber_10 jw_f5f0bc6b7c ?_
    refine jj_ldiv C dX11_printNumber_13 (by decide) rfl ?_
    obtain ⟨qc, gs, hqc⟩ := tt_recv (cx := []) hok hk0 (by decide) rfl
    refine tt_callV (rest := []) C (rs_printNumber_15 hl D cA ak n24 (p1 / (10 : Int64)) hk0 hkw hka hkt hki hkf hkp (by first | omega | decide) (by first | omega | decide) (rz_d10 (b := 9999999999999999) (by omega) (by omega)) hok hm hs24) [] [] rfl rfl (by decide) (by decide) (by decide) qc hqc rfl rfl jw_bb61e96786 jw_d73f5cdc0e jw_e0101bc9a3 jw_f96c99f44d jw_48170ecb3c jn_X11_printNumber rfl (jj_le rfl) (jj_le rfl) (jj_le rfl) (jj_le rfl) (jj_le rfl) dX11_printNumber_14 rfl (fun _ _ _ hX => hX.elim) (fun rx pl_12 r O_16 => ?_)
    obtain ⟨rfl, hok_13, hr_14, ha_15, hR_17⟩ := O_16
    replace hm := hm.fr hr_14 hk0 rfl
    replace hfr := hfr.trans (hr_14.sub (by decide))
    replace hfa := hfa.trans (ha_15.sub (by decide))
    obtain ⟨n_18, hf_19, ln_18, un_18, rfl⟩ := hR_17
    refine jj_aload_n C dX11_printNumber_17 rfl ?_
    refine jj_ldc2 (v := 48) C dX11_printNumber_18 jw_d6cfdd4319 ?_
    refine jj_lload_n C dX11_printNumber_21 rfl ?_
    refine jj_ldc2 (v := 10) C dX11_printNumber_22 jw_f5f0bc6b7c ?_
    refine jj_lrem C dX11_printNumber_25 (by decide) rfl ?_
    refine jj_ladd C dX11_printNumber_26 rfl ?_
    obtain ⟨x_20, ex_20⟩ : ∃ z : Int32, ((48 : Int64) + (p1 - p1 / (10 : Int64) * (10 : Int64))).toInt32 = z := ⟨_, rfl⟩
    refine jj_l2i (v := x_20) C dX11_printNumber_27 ex_20 ?_
    obtain ⟨x_21, ex_21⟩ : ∃ z : Int32, (x_20.toUInt32 % 65536).toInt32 = z := ⟨_, rfl⟩
    refine jj_i2c (v := x_21) C dX11_printNumber_28 ex_21 ?_
    obtain ⟨qc, gs, hqc⟩ := tt_recv (cx := []) hok_13 hk0 (by decide) rfl
    refine tt_callV (rest := []) C (rs_print hl D cA ak n_18 x_21 hk0 hkw hka hkt hki hkf hkp (by first | omega | decide) (by first | omega | decide) hok_13 hm hf_19) [] [] rfl rfl (by decide) (by decide) (by decide) qc hqc rfl rfl jw_5467bceb3b jw_6617e6021e jw_7548414167 jw_f96c99f44d jw_b7d8894a18 jn_X11_print rfl (jj_le rfl) (jj_le rfl) (jj_le rfl) (jj_le rfl) (jj_le rfl) dX11_printNumber_29 rfl (fun _ _ _ hX => hX.elim) (fun rx pl_22 r O_26 => ?_)
    obtain ⟨rfl, hok_23, hr_24, ha_25, hR_27⟩ := O_26
    replace hm := hm.fr hr_24 hk0 rfl
    replace hfr := hfr.trans (hr_24.sub (by decide))
    replace hfa := hfa.trans (ha_25.sub (by decide))
    obtain ⟨n_28, hf_29, ln_28, un_28, rfl⟩ := hR_27
    exact jj_vret C ⟨[], pl_22, rfl, rfl, hok_23, hfr, hfa, ⟨n_28, hf_29, (by omega), (by omega), rfl⟩⟩ dX11_printNumber_32 (jj_le rfl) (jj_le rfl)

set_option maxHeartbeats 4000000 in
set_option maxRecDepth 100000 in
theorem rs_printNumber_17 {l : Launch} (hl : l.stackTraces = false) (D : va_G) (cA : Nat → ClassId) (ak : (Nat → Nat) × (Nat → Nat)) {Kd : Nat → Nat} {h0 aw aa at0 ai af ap : Nat} (n24 : Nat) (p1 : Int64) (hk0 : Kd h0 = 1) (hkw : Kd aw = 2) (hka : Kd aa = 3) (hkt : Kd at0 = 4) (hki : Kd ai = 5) (hkf : Kd af = 6) (hkp : Kd ap = 7) (ln24 : (0 : Int) ≤ (n24 : Int)) (un24 : (n24 : Int) ≤ 2382) (up1 : p1.toInt ≤ 999999999999999999) {pl0 : va_W} (hok : tt_ok rt_tk cA Kd pl0) (hm : rl_m pl0 h0 aw aa at0 ai af ap) (hs24 : tt_at pl0 h0 24 (.int (nI n24))) : jj_M l D cA ak yX11_printNumber (.code yX11_printNumber cX11_printNumber 3 none) 18 395 0 0 ([] ++ pl0) [.ref h0, .long p1] (tt_O (fun rx pl1 r => rx = [] ∧ tt_ok rt_tk cA Kd pl1 ∧ tt_fr Kd [(1, 24)] pl0 pl1 ∧ tt_fa Kd [13] pl0 pl1 ∧ ((∃ m : Nat, tt_at pl1 h0 24 (.int (nI m)) ∧ n24 ≤ m ∧ m ≤ n24 + 18 ∧ r = none)))) (tt_OX (fun _ _ _ => False)) := by
  refine jj_start hl (by decide) jw_48170ecb3c (jj_le rfl) ?_
  intro p e s m args below meth c A hargs hA C hex hmn
  have hfr := tt_fr.refl (K := Kd) (WS := [(1, 24)]) pl0
  have hfa := tt_fa.refl (K := Kd) (WA := [13]) pl0
  refine jj_lload_n C dX11_printNumber_0 rfl ?_
  refine jj_ldc2 (v := 9) C dX11_printNumber_1 jw_9a85c015b2 ?_
  refine jj_lcmp_le (tgt := 17) C dX11_printNumber_4 dX11_printNumber_5 (by decide) (fun c_1 => ?_) (fun c_1 => ?_)
  · have z_c_1 := jc_leL (a := p1.toInt) (b := 9) c_1 rfl (by decide)
    refine jj_aload_n C dX11_printNumber_17 rfl ?_
    refine jj_ldc2 (v := 48) C dX11_printNumber_18 jw_d6cfdd4319 ?_
    refine jj_lload_n C dX11_printNumber_21 rfl ?_
    refine jj_ldc2 (v := 10) C dX11_printNumber_22 jw_f5f0bc6b7c ?_
    refine jj_lrem C dX11_printNumber_25 (by decide) rfl ?_
    refine jj_ladd C dX11_printNumber_26 rfl ?_
    obtain ⟨x_2, ex_2⟩ : ∃ z : Int32, ((48 : Int64) + (p1 - p1 / (10 : Int64) * (10 : Int64))).toInt32 = z := ⟨_, rfl⟩
    refine jj_l2i (v := x_2) C dX11_printNumber_27 ex_2 ?_
    obtain ⟨x_3, ex_3⟩ : ∃ z : Int32, (x_2.toUInt32 % 65536).toInt32 = z := ⟨_, rfl⟩
    refine jj_i2c (v := x_3) C dX11_printNumber_28 ex_3 ?_
    obtain ⟨qc, gs, hqc⟩ := tt_recv (cx := []) hok hk0 (by decide) rfl
    refine tt_callV (rest := []) C (rs_print hl D cA ak n24 x_3 hk0 hkw hka hkt hki hkf hkp (by first | omega | decide) (by first | omega | decide) hok hm hs24) [] [] rfl rfl (by decide) (by decide) (by decide) qc hqc rfl rfl jw_5467bceb3b jw_6617e6021e jw_7548414167 jw_f96c99f44d jw_b7d8894a18 jn_X11_print rfl (jj_le rfl) (jj_le rfl) (jj_le rfl) (jj_le rfl) (jj_le rfl) dX11_printNumber_29 rfl (fun _ _ _ hX => hX.elim) (fun rx pl_4 r O_8 => ?_)
    obtain ⟨rfl, hok_5, hr_6, ha_7, hR_9⟩ := O_8
    replace hm := hm.fr hr_6 hk0 rfl
    replace hfr := hfr.trans (hr_6.sub (by decide))
    replace hfa := hfa.trans (ha_7.sub (by decide))
    obtain ⟨n_10, hf_11, ln_10, un_10, rfl⟩ := hR_9
    exact jj_vret C ⟨[], pl_4, rfl, rfl, hok_5, hfr, hfa, ⟨n_10, hf_11, (by omega), (by omega), rfl⟩⟩ dX11_printNumber_32 (jj_le rfl) (jj_le rfl)
  · have z_c_1 := jc_nleL (a := p1.toInt) (b := 9) c_1 rfl (by decide)
    refine jj_aload_n C dX11_printNumber_8 rfl ?_
    refine jj_lload_n C dX11_printNumber_9 rfl ?_
    refine jj_ldc2 (v := 10) C dX11_printNumber_10 jw_f5f0bc6b7c ?_
    refine jj_ldiv C dX11_printNumber_13 (by decide) rfl ?_
    obtain ⟨qc, gs, hqc⟩ := tt_recv (cx := []) hok hk0 (by decide) rfl
    refine tt_callV (rest := []) C (rs_printNumber_16 hl D cA ak n24 (p1 / (10 : Int64)) hk0 hkw hka hkt hki hkf hkp (by first | omega | decide) (by first | omega | decide) (rz_d10 (b := 99999999999999999) (by omega) (by omega)) hok hm hs24) [] [] rfl rfl (by decide) (by decide) (by decide) qc hqc rfl rfl jw_bb61e96786 jw_d73f5cdc0e jw_e0101bc9a3 jw_f96c99f44d jw_48170ecb3c jn_X11_printNumber rfl (jj_le rfl) (jj_le rfl) (jj_le rfl) (jj_le rfl) (jj_le rfl) dX11_printNumber_14 rfl (fun _ _ _ hX => hX.elim) (fun rx pl_12 r O_16 => ?_)
    obtain ⟨rfl, hok_13, hr_14, ha_15, hR_17⟩ := O_16
    replace hm := hm.fr hr_14 hk0 rfl
    replace hfr := hfr.trans (hr_14.sub (by decide))
    replace hfa := hfa.trans (ha_15.sub (by decide))
    obtain ⟨n_18, hf_19, ln_18, un_18, rfl⟩ := hR_17
    refine jj_aload_n C dX11_printNumber_17 rfl ?_
    refine jj_ldc2 (v := 48) C dX11_printNumber_18 jw_d6cfdd4319 ?_
    refine jj_lload_n C dX11_printNumber_21 rfl ?_
    refine jj_ldc2 (v := 10) C dX11_printNumber_22 jw_f5f0bc6b7c ?_
    refine jj_lrem C dX11_printNumber_25 (by decide) rfl ?_
    refine jj_ladd C dX11_printNumber_26 rfl ?_
    obtain ⟨x_20, ex_20⟩ : ∃ z : Int32, ((48 : Int64) + (p1 - p1 / (10 : Int64) * (10 : Int64))).toInt32 = z := ⟨_, rfl⟩
    refine jj_l2i (v := x_20) C dX11_printNumber_27 ex_20 ?_
    obtain ⟨x_21, ex_21⟩ : ∃ z : Int32, (x_20.toUInt32 % 65536).toInt32 = z := ⟨_, rfl⟩
    refine jj_i2c (v := x_21) C dX11_printNumber_28 ex_21 ?_
    obtain ⟨qc, gs, hqc⟩ := tt_recv (cx := []) hok_13 hk0 (by decide) rfl
    refine tt_callV (rest := []) C (rs_print hl D cA ak n_18 x_21 hk0 hkw hka hkt hki hkf hkp (by first | omega | decide) (by first | omega | decide) hok_13 hm hf_19) [] [] rfl rfl (by decide) (by decide) (by decide) qc hqc rfl rfl jw_5467bceb3b jw_6617e6021e jw_7548414167 jw_f96c99f44d jw_b7d8894a18 jn_X11_print rfl (jj_le rfl) (jj_le rfl) (jj_le rfl) (jj_le rfl) (jj_le rfl) dX11_printNumber_29 rfl (fun _ _ _ hX => hX.elim) (fun rx pl_22 r O_26 => ?_)
    obtain ⟨rfl, hok_23, hr_24, ha_25, hR_27⟩ := O_26
    replace hm := hm.fr hr_24 hk0 rfl
    replace hfr := hfr.trans (hr_24.sub (by decide))
    replace hfa := hfa.trans (ha_25.sub (by decide))
    obtain ⟨n_28, hf_29, ln_28, un_28, rfl⟩ := hR_27
    exact jj_vret C ⟨[], pl_22, rfl, rfl, hok_23, hfr, hfa, ⟨n_28, hf_29, (by omega), (by omega), rfl⟩⟩ dX11_printNumber_32 (jj_le rfl) (jj_le rfl)

set_option maxHeartbeats 4000000 in
set_option maxRecDepth 100000 in
theorem rs_printNumber_18 {l : Launch} (hl : l.stackTraces = false) (D : va_G) (cA : Nat → ClassId) (ak : (Nat → Nat) × (Nat → Nat)) {Kd : Nat → Nat} {h0 aw aa at0 ai af ap : Nat} (n24 : Nat) (p1 : Int64) (hk0 : Kd h0 = 1) (hkw : Kd aw = 2) (hka : Kd aa = 3) (hkt : Kd at0 = 4) (hki : Kd ai = 5) (hkf : Kd af = 6) (hkp : Kd ap = 7) (ln24 : (0 : Int) ≤ (n24 : Int)) (un24 : (n24 : Int) ≤ 2381) (up1 : p1.toInt ≤ 9223372036854775807) {pl0 : va_W} (hok : tt_ok rt_tk cA Kd pl0) (hm : rl_m pl0 h0 aw aa at0 ai af ap) (hs24 : tt_at pl0 h0 24 (.int (nI n24))) : jj_M l D cA ak yX11_printNumber (.code yX11_printNumber cX11_printNumber 3 none) 19 417 0 0 ([] ++ pl0) [.ref h0, .long p1] (tt_O (fun rx pl1 r => rx = [] ∧ tt_ok rt_tk cA Kd pl1 ∧ tt_fr Kd [(1, 24)] pl0 pl1 ∧ tt_fa Kd [13] pl0 pl1 ∧ ((∃ m : Nat, tt_at pl1 h0 24 (.int (nI m)) ∧ n24 ≤ m ∧ m ≤ n24 + 19 ∧ r = none)))) (tt_OX (fun _ _ _ => False)) := by
  refine jj_start hl (by decide) jw_48170ecb3c (jj_le rfl) ?_
  intro p e s m args below meth c A hargs hA C hex hmn
  have hfr := tt_fr.refl (K := Kd) (WS := [(1, 24)]) pl0
  have hfa := tt_fa.refl (K := Kd) (WA := [13]) pl0
  refine jj_lload_n C dX11_printNumber_0 rfl ?_
  refine jj_ldc2 (v := 9) C dX11_printNumber_1 jw_9a85c015b2 ?_
  refine jj_lcmp_le (tgt := 17) C dX11_printNumber_4 dX11_printNumber_5 (by decide) (fun c_1 => ?_) (fun c_1 => ?_)
  · have z_c_1 := jc_leL (a := p1.toInt) (b := 9) c_1 rfl (by decide)
    refine jj_aload_n C dX11_printNumber_17 rfl ?_
    refine jj_ldc2 (v := 48) C dX11_printNumber_18 jw_d6cfdd4319 ?_
    refine jj_lload_n C dX11_printNumber_21 rfl ?_
    refine jj_ldc2 (v := 10) C dX11_printNumber_22 jw_f5f0bc6b7c ?_
    refine jj_lrem C dX11_printNumber_25 (by decide) rfl ?_
    refine jj_ladd C dX11_printNumber_26 rfl ?_
    obtain ⟨x_2, ex_2⟩ : ∃ z : Int32, ((48 : Int64) + (p1 - p1 / (10 : Int64) * (10 : Int64))).toInt32 = z := ⟨_, rfl⟩
    refine jj_l2i (v := x_2) C dX11_printNumber_27 ex_2 ?_
    obtain ⟨x_3, ex_3⟩ : ∃ z : Int32, (x_2.toUInt32 % 65536).toInt32 = z := ⟨_, rfl⟩
    refine jj_i2c (v := x_3) C dX11_printNumber_28 ex_3 ?_
    obtain ⟨qc, gs, hqc⟩ := tt_recv (cx := []) hok hk0 (by decide) rfl
    refine tt_callV (rest := []) C (rs_print hl D cA ak n24 x_3 hk0 hkw hka hkt hki hkf hkp (by first | omega | decide) (by first | omega | decide) hok hm hs24) [] [] rfl rfl (by decide) (by decide) (by decide) qc hqc rfl rfl jw_5467bceb3b jw_6617e6021e jw_7548414167 jw_f96c99f44d jw_b7d8894a18 jn_X11_print rfl (jj_le rfl) (jj_le rfl) (jj_le rfl) (jj_le rfl) (jj_le rfl) dX11_printNumber_29 rfl (fun _ _ _ hX => hX.elim) (fun rx pl_4 r O_8 => ?_)
    obtain ⟨rfl, hok_5, hr_6, ha_7, hR_9⟩ := O_8
    replace hm := hm.fr hr_6 hk0 rfl
    replace hfr := hfr.trans (hr_6.sub (by decide))
    replace hfa := hfa.trans (ha_7.sub (by decide))
    obtain ⟨n_10, hf_11, ln_10, un_10, rfl⟩ := hR_9
    exact jj_vret C ⟨[], pl_4, rfl, rfl, hok_5, hfr, hfa, ⟨n_10, hf_11, (by omega), (by omega), rfl⟩⟩ dX11_printNumber_32 (jj_le rfl) (jj_le rfl)
  · have z_c_1 := jc_nleL (a := p1.toInt) (b := 9) c_1 rfl (by decide)
    refine jj_aload_n C dX11_printNumber_8 rfl ?_
    refine jj_lload_n C dX11_printNumber_9 rfl ?_
    refine jj_ldc2 (v := 10) C dX11_printNumber_10 jw_f5f0bc6b7c ?_
    refine jj_ldiv C dX11_printNumber_13 (by decide) rfl ?_
    obtain ⟨qc, gs, hqc⟩ := tt_recv (cx := []) hok hk0 (by decide) rfl
    refine tt_callV (rest := []) C (rs_printNumber_17 hl D cA ak n24 (p1 / (10 : Int64)) hk0 hkw hka hkt hki hkf hkp (by first | omega | decide) (by first | omega | decide) (rz_d10 (b := 999999999999999999) (by omega) (by omega)) hok hm hs24) [] [] rfl rfl (by decide) (by decide) (by decide) qc hqc rfl rfl jw_bb61e96786 jw_d73f5cdc0e jw_e0101bc9a3 jw_f96c99f44d jw_48170ecb3c jn_X11_printNumber rfl (jj_le rfl) (jj_le rfl) (jj_le rfl) (jj_le rfl) (jj_le rfl) dX11_printNumber_14 rfl (fun _ _ _ hX => hX.elim) (fun rx pl_12 r O_16 => ?_)
    obtain ⟨rfl, hok_13, hr_14, ha_15, hR_17⟩ := O_16
    replace hm := hm.fr hr_14 hk0 rfl
    replace hfr := hfr.trans (hr_14.sub (by decide))
    replace hfa := hfa.trans (ha_15.sub (by decide))
    obtain ⟨n_18, hf_19, ln_18, un_18, rfl⟩ := hR_17
    refine jj_aload_n C dX11_printNumber_17 rfl ?_
    refine jj_ldc2 (v := 48) C dX11_printNumber_18 jw_d6cfdd4319 ?_
    refine jj_lload_n C dX11_printNumber_21 rfl ?_
    refine jj_ldc2 (v := 10) C dX11_printNumber_22 jw_f5f0bc6b7c ?_
    refine jj_lrem C dX11_printNumber_25 (by decide) rfl ?_
    refine jj_ladd C dX11_printNumber_26 rfl ?_
    obtain ⟨x_20, ex_20⟩ : ∃ z : Int32, ((48 : Int64) + (p1 - p1 / (10 : Int64) * (10 : Int64))).toInt32 = z := ⟨_, rfl⟩
    refine jj_l2i (v := x_20) C dX11_printNumber_27 ex_20 ?_
    obtain ⟨x_21, ex_21⟩ : ∃ z : Int32, (x_20.toUInt32 % 65536).toInt32 = z := ⟨_, rfl⟩
    refine jj_i2c (v := x_21) C dX11_printNumber_28 ex_21 ?_
    obtain ⟨qc, gs, hqc⟩ := tt_recv (cx := []) hok_13 hk0 (by decide) rfl
    refine tt_callV (rest := []) C (rs_print hl D cA ak n_18 x_21 hk0 hkw hka hkt hki hkf hkp (by first | omega | decide) (by first | omega | decide) hok_13 hm hf_19) [] [] rfl rfl (by decide) (by decide) (by decide) qc hqc rfl rfl jw_5467bceb3b jw_6617e6021e jw_7548414167 jw_f96c99f44d jw_b7d8894a18 jn_X11_print rfl (jj_le rfl) (jj_le rfl) (jj_le rfl) (jj_le rfl) (jj_le rfl) dX11_printNumber_29 rfl (fun _ _ _ hX => hX.elim) (fun rx pl_22 r O_26 => ?_)
    obtain ⟨rfl, hok_23, hr_24, ha_25, hR_27⟩ := O_26
    replace hm := hm.fr hr_24 hk0 rfl
    replace hfr := hfr.trans (hr_24.sub (by decide))
    replace hfa := hfa.trans (ha_25.sub (by decide))
    obtain ⟨n_28, hf_29, ln_28, un_28, rfl⟩ := hR_27
    exact jj_vret C ⟨[], pl_22, rfl, rfl, hok_23, hfr, hfa, ⟨n_28, hf_29, (by omega), (by omega), rfl⟩⟩ dX11_printNumber_32 (jj_le rfl) (jj_le rfl)

set_option maxHeartbeats 4000000 in
set_option maxRecDepth 100000 in
theorem rs_printSeries {l : Launch} (hl : l.stackTraces = false) (D : va_G) (cA : Nat → ClassId) (ak : (Nat → Nat) × (Nat → Nat)) {Kd : Nat → Nat} {h0 aw aa at0 ai af ap : Nat} (n24 : Nat) (k : Nat) (B : Int) (f : Nat → Int64) (hk0 : Kd h0 = 1) (hkw : Kd aw = 2) (hka : Kd aa = 3) (hkt : Kd at0 = 4) (hki : Kd ai = 5) (hkf : Kd af = 6) (hkp : Kd ap = 7) (ln24 : (0 : Int) ≤ (n24 : Int)) (un24 : (n24 : Int) ≤ 2000) (hk : k < rnS f) (hI : rl_I B f) (hP : rl_P f) {pl0 : va_W} (hok : tt_ok rt_tk cA Kd pl0) (hm : rl_m pl0 h0 aw aa at0 ai af ap) (hC : tt_lc pl0 aw f) (hs24 : tt_at pl0 h0 24 (.int (nI n24))) : jj_M l D cA ak yX11_printSeries (.code yX11_printSeries cX11_printSeries 5 none) 20 439 0 0 ([] ++ pl0) [.ref h0, .int (nI (16 + 5 * k))] (tt_O (fun rx pl1 r => rx = [] ∧ tt_ok rt_tk cA Kd pl1 ∧ tt_fr Kd [(1, 24)] pl0 pl1 ∧ tt_fa Kd [13] pl0 pl1 ∧ ((∃ m : Nat, tt_at pl1 h0 24 (.int (nI m)) ∧ n24 ≤ m ∧ m ≤ n24 + 313 ∧ r = none)))) (tt_OX (fun _ _ _ => False)) := by
  refine jj_start hl (by decide) jw_b9b1520d5d (jj_le rfl) ?_
  intro p e s m args below meth c A hargs hA C hex hmn
  have hfr := tt_fr.refl (K := Kd) (WS := [(1, 24)]) pl0
  have hfa := tt_fa.refl (K := Kd) (WA := [13]) pl0
  have hH := hI.1.1
  obtain ⟨⟨g0a, g0b⟩, ⟨g1a, g1b⟩, ⟨g6a, g6b⟩, ⟨g7a, g7b⟩, ⟨g8a, g8b⟩⟩ := hH
  have hk6 : k < 6 := by unfold rnS at hk; omega
  refine jj_aload_n C dX11_printSeries_0 rfl ?_
  refine jj_ldcsw (k := 35) (tx := "series ") C dX11_printSeries_1 (by decide +kernel) ?_
  obtain ⟨qc, gs, hqc⟩ := tt_recv (cx := []) hok hk0 (by decide) rfl
  refine tt_callV (rest := []) C (rs_printWord_series hl D cA ak n24 hk0 hkw hka hkt hki hkf hkp (by first | omega | decide) (by first | omega | decide) hok hm hs24) [] [] rfl rfl (by decide) (by decide) (by decide) qc hqc rfl rfl jw_31f5fe1455 jw_1ec544ea5d jw_0de28f9134 jw_f96c99f44d jw_b4eaee752c jn_X11_printWord rfl (jj_le rfl) (jj_le rfl) (jj_le rfl) (jj_le rfl) (jj_le rfl) dX11_printSeries_4 rfl (fun _ _ _ hX => hX.elim) (fun rx pl_1 r O_5 => ?_)
  obtain ⟨rfl, hok_2, hr_3, ha_4, hR_6⟩ := O_5
  replace hC := ha_4.at hkw (by decide) (by decide) hC
  replace hm := hm.fr hr_3 hk0 rfl
  replace hfr := hfr.trans (hr_3.sub (by decide))
  replace hfa := hfa.trans (ha_4.sub (by decide))
  obtain ⟨n_7, hf_8, ln_7, un_7, rfl⟩ := hR_6
  refine jj_aload_n C dX11_printSeries_7 rfl ?_
  refine jj_aload_n C dX11_printSeries_8 rfl ?_
  refine tt_getF C hok_2 jk_12 0 (by decide) jw_34eaf3ba8b (t := (2, 2, 0)) hk0 (by decide) rfl rfl hm.1 dX11_printSeries_9 ?_
  refine jj_iload_n C dX11_printSeries_12 rfl ?_
  refine jj_iconst (v := 0) C dX11_printSeries_13 (by decide) ?_
  refine jj_iadd (v := nI (16 + 5 * k)) C dX11_printSeries_14 (rl_addR (kn := 0) (by decide) (by omega)) ?_
  refine rl_lald C hok_2 (t := (1, (-9223372036854775808), 9223372036854775807)) hkw (by decide) rfl (k := 16 + 5 * k) (v := (f (16 + 5 * k))) (vp_in_nI (by omega) (by decide)) hC (nI_clamp (by omega)) rfl dX11_printSeries_15 ?_
  obtain ⟨qc, gs, hqc⟩ := tt_recv (cx := []) hok_2 hk0 (by decide) rfl
  refine tt_callV (rest := []) C (rs_printNumber_18 hl D cA ak n_7 (f (16 + 5 * k)) hk0 hkw hka hkt hki hkf hkp (by first | omega | decide) (by first | omega | decide) (rz_hi _) hok_2 hm hf_8) [] [] rfl rfl (by decide) (by decide) (by decide) qc hqc rfl rfl jw_bb61e96786 jw_d73f5cdc0e jw_e0101bc9a3 jw_f96c99f44d jw_48170ecb3c jn_X11_printNumber rfl (jj_le rfl) (jj_le rfl) (jj_le rfl) (jj_le rfl) (jj_le rfl) dX11_printSeries_16 rfl (fun _ _ _ hX => hX.elim) (fun rx pl_9 r O_13 => ?_)
  obtain ⟨rfl, hok_10, hr_11, ha_12, hR_14⟩ := O_13
  replace hC := ha_12.at hkw (by decide) (by decide) hC
  replace hm := hm.fr hr_11 hk0 rfl
  replace hfr := hfr.trans (hr_11.sub (by decide))
  replace hfa := hfa.trans (ha_12.sub (by decide))
  obtain ⟨n_15, hf_16, ln_15, un_15, rfl⟩ := hR_14
  refine jj_aload_n C dX11_printSeries_19 rfl ?_
  refine jj_bipush (v := 32) C dX11_printSeries_20 (by decide) ?_
  obtain ⟨qc, gs, hqc⟩ := tt_recv (cx := []) hok_10 hk0 (by decide) rfl
  refine tt_callV (rest := []) C (rs_print hl D cA ak n_15 (32 : Int32) hk0 hkw hka hkt hki hkf hkp (by first | omega | decide) (by first | omega | decide) hok_10 hm hf_16) [] [] rfl rfl (by decide) (by decide) (by decide) qc hqc rfl rfl jw_5467bceb3b jw_6617e6021e jw_7548414167 jw_f96c99f44d jw_b7d8894a18 jn_X11_print rfl (jj_le rfl) (jj_le rfl) (jj_le rfl) (jj_le rfl) (jj_le rfl) dX11_printSeries_22 rfl (fun _ _ _ hX => hX.elim) (fun rx pl_17 r O_21 => ?_)
  obtain ⟨rfl, hok_18, hr_19, ha_20, hR_22⟩ := O_21
  replace hC := ha_20.at hkw (by decide) (by decide) hC
  replace hm := hm.fr hr_19 hk0 rfl
  replace hfr := hfr.trans (hr_19.sub (by decide))
  replace hfa := hfa.trans (ha_20.sub (by decide))
  obtain ⟨n_23, hf_24, ln_23, un_23, rfl⟩ := hR_22
  refine jj_aload_n C dX11_printSeries_25 rfl ?_
  refine jj_aload_n C dX11_printSeries_26 rfl ?_
  refine jj_iload_n C dX11_printSeries_27 rfl ?_
  obtain ⟨qc, gs, hqc⟩ := tt_recv (cx := []) hok_18 hk0 (by decide) rfl
  refine tt_callV (rest := [.ref h0]) C (rs_net hl D cA ak k f hk0 hkw hka hkt hki hkf hkp (by omega) hok_18 hm hC) [] [] rfl rfl (by decide) (by decide) (by decide) qc hqc rfl rfl jw_097701ac65 jw_3078c54111 jw_c9e42407ff jw_f96c99f44d jw_02915e3ff9 jn_X11_net rfl (jj_le rfl) (jj_le rfl) (jj_le rfl) (jj_le rfl) (jj_le rfl) dX11_printSeries_28 rfl (fun _ _ _ hX => hX.elim) (fun rx pl_25 r O_29 => ?_)
  obtain ⟨rfl, hok_26, hr_27, ha_28, hR_30⟩ := O_29
  replace hf_24 := hr_27.at hk0 (by decide) (by decide) hf_24
  replace hC := ha_28.at hkw (by decide) (by decide) hC
  replace hm := hm.fr hr_27 hk0 rfl
  replace hfr := hfr.trans (hr_27.sub (by decide))
  replace hfa := hfa.trans (ha_28.sub (by decide))
  obtain rfl := hR_30
  refine jj_ldc2 (v := 100000) C dX11_printSeries_31 jw_759d064724 ?_
  refine jj_lmul C dX11_printSeries_34 rfl ?_
  refine jj_aload_n C dX11_printSeries_35 rfl ?_
  refine tt_getF C hok_26 jk_12 0 (by decide) jw_34eaf3ba8b (t := (2, 2, 0)) hk0 (by decide) rfl rfl hm.1 dX11_printSeries_36 ?_
  refine jj_iload_n C dX11_printSeries_39 rfl ?_
  refine jj_iconst (v := 3) C dX11_printSeries_40 (by decide) ?_
  refine jj_iadd (v := nI (19 + 5 * k)) C dX11_printSeries_41 (rl_addR (kn := 3) (by decide) (by omega)) ?_
  refine rl_lald C hok_26 (t := (1, (-9223372036854775808), 9223372036854775807)) hkw (by decide) rfl (k := 19 + 5 * k) (v := (f (19 + 5 * k))) (vp_in_nI (by omega) (by decide)) hC (nI_clamp (by omega)) rfl dX11_printSeries_42 ?_
  refine jj_ldiv C dX11_printSeries_43 (rl_PU hP (k := k) (by unfold rnS; omega)) rfl ?_
  obtain ⟨qc, gs, hqc⟩ := tt_recv (cx := []) hok_26 hk0 (by decide) rfl
  refine tt_callV (rest := []) C (rs_printNumber_18 hl D cA ak n_23 (((f (18 + 5 * k) - rg_acc f k) * (100000 : Int64)) / (f (19 + 5 * k))) hk0 hkw hka hkt hki hkf hkp (by first | omega | decide) (by first | omega | decide) (rz_hi _) hok_26 hm hf_24) [] [] rfl rfl (by decide) (by decide) (by decide) qc hqc rfl rfl jw_bb61e96786 jw_d73f5cdc0e jw_e0101bc9a3 jw_f96c99f44d jw_48170ecb3c jn_X11_printNumber rfl (jj_le rfl) (jj_le rfl) (jj_le rfl) (jj_le rfl) (jj_le rfl) dX11_printSeries_44 rfl (fun _ _ _ hX => hX.elim) (fun rx pl_31 r O_35 => ?_)
  obtain ⟨rfl, hok_32, hr_33, ha_34, hR_36⟩ := O_35
  replace hC := ha_34.at hkw (by decide) (by decide) hC
  replace hm := hm.fr hr_33 hk0 rfl
  replace hfr := hfr.trans (hr_33.sub (by decide))
  replace hfa := hfa.trans (ha_34.sub (by decide))
  obtain ⟨n_37, hf_38, ln_37, un_37, rfl⟩ := hR_36
  refine jj_aload_n C dX11_printSeries_47 rfl ?_
  refine jj_bipush (v := 32) C dX11_printSeries_48 (by decide) ?_
  obtain ⟨qc, gs, hqc⟩ := tt_recv (cx := []) hok_32 hk0 (by decide) rfl
  refine tt_callV (rest := []) C (rs_print hl D cA ak n_37 (32 : Int32) hk0 hkw hka hkt hki hkf hkp (by first | omega | decide) (by first | omega | decide) hok_32 hm hf_38) [] [] rfl rfl (by decide) (by decide) (by decide) qc hqc rfl rfl jw_5467bceb3b jw_6617e6021e jw_7548414167 jw_f96c99f44d jw_b7d8894a18 jn_X11_print rfl (jj_le rfl) (jj_le rfl) (jj_le rfl) (jj_le rfl) (jj_le rfl) dX11_printSeries_50 rfl (fun _ _ _ hX => hX.elim) (fun rx pl_39 r O_43 => ?_)
  obtain ⟨rfl, hok_40, hr_41, ha_42, hR_44⟩ := O_43
  replace hC := ha_42.at hkw (by decide) (by decide) hC
  replace hm := hm.fr hr_41 hk0 rfl
  replace hfr := hfr.trans (hr_41.sub (by decide))
  replace hfa := hfa.trans (ha_42.sub (by decide))
  obtain ⟨n_45, hf_46, ln_45, un_45, rfl⟩ := hR_44
  refine jj_aload_n C dX11_printSeries_53 rfl ?_
  refine jj_aload_n C dX11_printSeries_54 rfl ?_
  refine tt_getF C hok_40 jk_12 0 (by decide) jw_34eaf3ba8b (t := (2, 2, 0)) hk0 (by decide) rfl rfl hm.1 dX11_printSeries_55 ?_
  refine jj_iload_n C dX11_printSeries_58 rfl ?_
  refine jj_iconst (v := 4) C dX11_printSeries_59 (by decide) ?_
  refine jj_iadd (v := nI (20 + 5 * k)) C dX11_printSeries_60 (rl_addR (kn := 4) (by decide) (by omega)) ?_
  refine rl_lald C hok_40 (t := (1, (-9223372036854775808), 9223372036854775807)) hkw (by decide) rfl (k := 20 + 5 * k) (v := (f (20 + 5 * k))) (vp_in_nI (by omega) (by decide)) hC (nI_clamp (by omega)) rfl dX11_printSeries_61 ?_
  obtain ⟨qc, gs, hqc⟩ := tt_recv (cx := []) hok_40 hk0 (by decide) rfl
  refine tt_callV (rest := []) C (rs_printNumber_18 hl D cA ak n_45 (f (20 + 5 * k)) hk0 hkw hka hkt hki hkf hkp (by first | omega | decide) (by first | omega | decide) (rz_hi _) hok_40 hm hf_46) [] [] rfl rfl (by decide) (by decide) (by decide) qc hqc rfl rfl jw_bb61e96786 jw_d73f5cdc0e jw_e0101bc9a3 jw_f96c99f44d jw_48170ecb3c jn_X11_printNumber rfl (jj_le rfl) (jj_le rfl) (jj_le rfl) (jj_le rfl) (jj_le rfl) dX11_printSeries_62 rfl (fun _ _ _ hX => hX.elim) (fun rx pl_47 r O_51 => ?_)
  obtain ⟨rfl, hok_48, hr_49, ha_50, hR_52⟩ := O_51
  replace hC := ha_50.at hkw (by decide) (by decide) hC
  replace hm := hm.fr hr_49 hk0 rfl
  replace hfr := hfr.trans (hr_49.sub (by decide))
  replace hfa := hfa.trans (ha_50.sub (by decide))
  obtain ⟨n_53, hf_54, ln_53, un_53, rfl⟩ := hR_52
  refine jj_iconst (v := 0) C dX11_printSeries_65 (by decide) ?_
  refine jj_istore_n C dX11_printSeries_66 (by decide) rfl ?_
  have hL_55 : ∀ (N : Nat) (pl : va_W) (k_56 : Nat) (n_57 : Nat), True → tt_ok rt_tk cA Kd pl → tt_fr Kd [(1, 24)] pl0 pl → tt_fa Kd [13] pl0 pl → rl_m pl h0 aw aa at0 ai af ap → tt_lc pl aw f → tt_at pl h0 24 (.int (nI n_57)) → (0 : Int) ≤ (k_56 : Int) → (k_56 : Int) ≤ 6 → (0 : Int) ≤ (n_57 : Int) → (n_57 : Int) ≤ 2400 → (((n24 : Nat) : Int) ≤ ((n_57 : Nat) : Int) ∧ ((n_57 : Nat) : Int) ≤ ((n24 : Nat) : Int) + 66 + 41 * ((k_56 : Nat) : Int)) → (2147483648 - (k_56 : Int) ≤ (N : Int)) → jj_J p l e (jj_rm 20 439 0 0) s m args below meth c 5 A (vx_MQ below (jj_q D A (tt_O (fun rx pl1 r => rx = [] ∧ tt_ok rt_tk cA Kd pl1 ∧ tt_fr Kd [(1, 24)] pl0 pl1 ∧ tt_fa Kd [13] pl0 pl1 ∧ ((∃ m : Nat, tt_at pl1 h0 24 (.int (nI m)) ∧ n24 ≤ m ∧ m ≤ n24 + 313 ∧ r = none))))) (jj_x D A (tt_OX (fun _ _ _ => False))) args s 0 0 A) (jj_X D A ([] ++ pl)) 0 0 67 [(2, .int (nI k_56)), (0, .ref h0), (1, .int (nI (16 + 5 * k)))] [] := by
    intro NL_55
    induction NL_55 with
    | zero => intro pl k_56 n_57 _ hok hfr hfa hm hC hf_58 lk_56 uk_56 ln_57 un_57 hS9 hNL_55; exfalso; omega
    | succ NL_55 ihL_55 =>
      intro pl k_56 n_57 _ hok hfr hfa hm hC hf_58 lk_56 uk_56 ln_57 un_57 hS9 hNL_55
      replace ihL_55 := fun pl k_56 n_57 h1 => ihL_55 pl k_56 n_57 trivial h1
      refine jj_iload_n C dX11_printSeries_67 rfl ?_
      refine jj_i2l C dX11_printSeries_68 rfl ?_
      refine jj_aload_n C dX11_printSeries_69 rfl ?_
      refine tt_getF C hok jk_12 0 (by decide) jw_34eaf3ba8b (t := (2, 2, 0)) hk0 (by decide) rfl rfl hm.1 dX11_printSeries_70 ?_
      refine jj_iconst (v := 0) C dX11_printSeries_73 (by decide) ?_
      refine rl_lald C hok (t := (1, (-9223372036854775808), 9223372036854775807)) hkw (by decide) rfl (k := 0) (v := (f 0)) (vp_in_iff.mpr (by decide)) hC (by decide) rfl dX11_printSeries_74 ?_
      refine jj_lcmp_ge (tgt := 131) C dX11_printSeries_75 dX11_printSeries_76 (by decide) (fun c_59 => ?_) (fun c_59 => ?_)
      · have z_c_59 := jc_leL (a := (f 0).toInt) (b := ((k_56 : Nat) : Int)) c_59 rfl (rl_tl (by omega))
        refine jj_aload_n C dX11_printSeries_131 rfl ?_
        refine jj_bipush (v := 10) C dX11_printSeries_132 (by decide) ?_
        obtain ⟨qc, gs, hqc⟩ := tt_recv (cx := []) hok hk0 (by decide) rfl
        refine tt_callV (rest := []) C (rs_print hl D cA ak n_57 (10 : Int32) hk0 hkw hka hkt hki hkf hkp (by first | omega | decide) (by first | omega | decide) hok hm hf_58) [] [] rfl rfl (by decide) (by decide) (by decide) qc hqc rfl rfl jw_5467bceb3b jw_6617e6021e jw_7548414167 jw_f96c99f44d jw_b7d8894a18 jn_X11_print rfl (jj_le rfl) (jj_le rfl) (jj_le rfl) (jj_le rfl) (jj_le rfl) dX11_printSeries_134 rfl (fun _ _ _ hX => hX.elim) (fun rx pl_60 r O_64 => ?_)
        obtain ⟨rfl, hok_61, hr_62, ha_63, hR_65⟩ := O_64
        replace hC := ha_63.at hkw (by decide) (by decide) hC
        replace hm := hm.fr hr_62 hk0 rfl
        replace hfr := hfr.trans (hr_62.sub (by decide))
        replace hfa := hfa.trans (ha_63.sub (by decide))
        obtain ⟨n_66, hf_67, ln_66, un_66, rfl⟩ := hR_65
        exact jj_vret C ⟨[], pl_60, rfl, rfl, hok_61, hfr, hfa, ⟨n_66, hf_67, (by omega), (by omega), rfl⟩⟩ dX11_printSeries_137 (jj_le rfl) (jj_le rfl)
      · have z_c_59 := jc_nleL (a := (f 0).toInt) (b := ((k_56 : Nat) : Int)) c_59 rfl (rl_tl (by omega))
        refine jj_aload_n C dX11_printSeries_79 rfl ?_
        refine jj_iload_n C dX11_printSeries_80 rfl ?_
        refine jj_aload_n C dX11_printSeries_81 rfl ?_
        refine tt_getF C hok jk_12 0 (by decide) jw_34eaf3ba8b (t := (2, 2, 0)) hk0 (by decide) rfl rfl hm.1 dX11_printSeries_82 ?_
        refine jj_iload_n C dX11_printSeries_85 rfl ?_
        refine jj_iconst (v := 0) C dX11_printSeries_86 (by decide) ?_
        refine jj_iadd (v := nI (16 + 5 * k)) C dX11_printSeries_87 (rl_addR (kn := 0) (by decide) (by omega)) ?_
        refine rl_lald C hok (t := (1, (-9223372036854775808), 9223372036854775807)) hkw (by decide) rfl (k := 16 + 5 * k) (v := (f (16 + 5 * k))) (vp_in_nI (by omega) (by decide)) hC (nI_clamp (by omega)) rfl dX11_printSeries_88 ?_
        obtain ⟨qc, gs, hqc⟩ := tt_recv (cx := []) hok hk0 (by decide) rfl
        refine tt_callV (rest := []) C (rc_X11_heldIn_d9921d hl D cA ak k_56 (f (16 + 5 * k)) _ hk0 hkw hka hkt hki hkf hkp (by omega) (by omega) ⟨⟨g0a, g0b⟩, ⟨g1a, g1b⟩, ⟨g6a, g6b⟩, ⟨g7a, g7b⟩, ⟨g8a, g8b⟩⟩ hok hm hC) [] [] rfl rfl (by decide) (by decide) (by decide) qc hqc rfl rfl jw_f36a3aef63 jw_ab1c8caae0 jw_683bed708f jw_f96c99f44d jw_f6a1ea64f5 jn_X11_heldIn rfl (jj_le rfl) (jj_le rfl) (jj_le rfl) (jj_le rfl) (jj_le rfl) dX11_printSeries_89 rfl (fun _ _ _ hX => hX.elim) (fun rx pl_68 r O_72 => ?_)
        obtain ⟨rfl, hok_69, hr_70, ha_71, hR_73⟩ := O_72
        replace hf_58 := hr_70.at hk0 (by decide) (by decide) hf_58
        replace hC := ha_71.at hkw (by decide) (by decide) hC
        replace hm := hm.fr hr_70 hk0 rfl
        replace hfr := hfr.trans (hr_70.sub (by decide))
        replace hfa := hfa.trans (ha_71.sub (by decide))
        obtain ⟨y_74, rfl⟩ := hR_73
        refine jj_lstore_n C dX11_printSeries_92 (by decide) rfl ?_
        refine jj_lload_n C dX11_printSeries_93 rfl ?_
        refine jj_lconst (v := 0) C dX11_printSeries_94 (by decide) ?_
        refine jj_lcmp_ne (tgt := 102) C dX11_printSeries_95 dX11_printSeries_96 (by decide) (fun c_75 => ?_) (fun c_75 => ?_)
        · have z_c_75 := jc_neqL (a := y_74.toInt) (b := 0) c_75 rfl (by decide)
          refine jj_aload_n C dX11_printSeries_102 rfl ?_
          refine jj_bipush (v := 32) C dX11_printSeries_103 (by decide) ?_
          obtain ⟨qc, gs, hqc⟩ := tt_recv (cx := []) hok_69 hk0 (by decide) rfl
          refine tt_callV (rest := []) C (rs_print hl D cA ak n_57 (32 : Int32) hk0 hkw hka hkt hki hkf hkp (by first | omega | decide) (by first | omega | decide) hok_69 hm hf_58) [] [] rfl rfl (by decide) (by decide) (by decide) qc hqc rfl rfl jw_5467bceb3b jw_6617e6021e jw_7548414167 jw_f96c99f44d jw_b7d8894a18 jn_X11_print rfl (jj_le rfl) (jj_le rfl) (jj_le rfl) (jj_le rfl) (jj_le rfl) dX11_printSeries_105 rfl (fun _ _ _ hX => hX.elim) (fun rx pl_76 r O_80 => ?_)
          obtain ⟨rfl, hok_77, hr_78, ha_79, hR_81⟩ := O_80
          replace hC := ha_79.at hkw (by decide) (by decide) hC
          replace hm := hm.fr hr_78 hk0 rfl
          replace hfr := hfr.trans (hr_78.sub (by decide))
          replace hfa := hfa.trans (ha_79.sub (by decide))
          obtain ⟨n_82, hf_83, ln_82, un_82, rfl⟩ := hR_81
          refine jj_aload_n C dX11_printSeries_108 rfl ?_
          refine jj_iload_n C dX11_printSeries_109 rfl ?_
          refine jj_i2l C dX11_printSeries_110 rfl ?_
          obtain ⟨qc, gs, hqc⟩ := tt_recv (cx := []) hok_77 hk0 (by decide) rfl
          refine tt_callV (rest := []) C (rs_printNumber_18 hl D cA ak n_82 ((nI k_56).toInt64) hk0 hkw hka hkt hki hkf hkp (by first | omega | decide) (by first | omega | decide) (rz_hi _) hok_77 hm hf_83) [] [] rfl rfl (by decide) (by decide) (by decide) qc hqc rfl rfl jw_bb61e96786 jw_d73f5cdc0e jw_e0101bc9a3 jw_f96c99f44d jw_48170ecb3c jn_X11_printNumber rfl (jj_le rfl) (jj_le rfl) (jj_le rfl) (jj_le rfl) (jj_le rfl) dX11_printSeries_111 rfl (fun _ _ _ hX => hX.elim) (fun rx pl_84 r O_88 => ?_)
          obtain ⟨rfl, hok_85, hr_86, ha_87, hR_89⟩ := O_88
          replace hC := ha_87.at hkw (by decide) (by decide) hC
          replace hm := hm.fr hr_86 hk0 rfl
          replace hfr := hfr.trans (hr_86.sub (by decide))
          replace hfa := hfa.trans (ha_87.sub (by decide))
          obtain ⟨n_90, hf_91, ln_90, un_90, rfl⟩ := hR_89
          refine jj_aload_n C dX11_printSeries_114 rfl ?_
          refine jj_bipush (v := 58) C dX11_printSeries_115 (by decide) ?_
          obtain ⟨qc, gs, hqc⟩ := tt_recv (cx := []) hok_85 hk0 (by decide) rfl
          refine tt_callV (rest := []) C (rs_print hl D cA ak n_90 (58 : Int32) hk0 hkw hka hkt hki hkf hkp (by first | omega | decide) (by first | omega | decide) hok_85 hm hf_91) [] [] rfl rfl (by decide) (by decide) (by decide) qc hqc rfl rfl jw_5467bceb3b jw_6617e6021e jw_7548414167 jw_f96c99f44d jw_b7d8894a18 jn_X11_print rfl (jj_le rfl) (jj_le rfl) (jj_le rfl) (jj_le rfl) (jj_le rfl) dX11_printSeries_117 rfl (fun _ _ _ hX => hX.elim) (fun rx pl_92 r O_96 => ?_)
          obtain ⟨rfl, hok_93, hr_94, ha_95, hR_97⟩ := O_96
          replace hC := ha_95.at hkw (by decide) (by decide) hC
          replace hm := hm.fr hr_94 hk0 rfl
          replace hfr := hfr.trans (hr_94.sub (by decide))
          replace hfa := hfa.trans (ha_95.sub (by decide))
          obtain ⟨n_98, hf_99, ln_98, un_98, rfl⟩ := hR_97
          refine jj_aload_n C dX11_printSeries_120 rfl ?_
          refine jj_lload_n C dX11_printSeries_121 rfl ?_
          obtain ⟨qc, gs, hqc⟩ := tt_recv (cx := []) hok_93 hk0 (by decide) rfl
          refine tt_callV (rest := []) C (rs_printNumber_18 hl D cA ak n_98 y_74 hk0 hkw hka hkt hki hkf hkp (by first | omega | decide) (by first | omega | decide) (rz_hi _) hok_93 hm hf_99) [] [] rfl rfl (by decide) (by decide) (by decide) qc hqc rfl rfl jw_bb61e96786 jw_d73f5cdc0e jw_e0101bc9a3 jw_f96c99f44d jw_48170ecb3c jn_X11_printNumber rfl (jj_le rfl) (jj_le rfl) (jj_le rfl) (jj_le rfl) (jj_le rfl) dX11_printSeries_122 rfl (fun _ _ _ hX => hX.elim) (fun rx pl_100 r O_104 => ?_)
          obtain ⟨rfl, hok_101, hr_102, ha_103, hR_105⟩ := O_104
          replace hC := ha_103.at hkw (by decide) (by decide) hC
          replace hm := hm.fr hr_102 hk0 rfl
          replace hfr := hfr.trans (hr_102.sub (by decide))
          replace hfa := hfa.trans (ha_103.sub (by decide))
          obtain ⟨n_106, hf_107, ln_106, un_106, rfl⟩ := hR_105
          refine jj_iinc (v := nI (1 + k_56)) C dX11_printSeries_125 rfl (rl_addR (kn := 1) (by decide) (by omega)) (by decide) rfl ?_
          refine jj_goto (tgt := 67) C dX11_printSeries_128 (by decide) ?_
          refine jj_loc [0, 2, 3] rfl ?_
          exact ihL_55 pl_100 (1 + k_56) n_106 hok_101 hfr hfa hm hC hf_107 (by first | omega | decide | exact tt_lo _ | exact tt_hi _) (by first | omega | decide | exact tt_lo _ | exact tt_hi _) (by first | omega | decide | exact tt_lo _ | exact tt_hi _) (by first | omega | decide | exact tt_lo _ | exact tt_hi _) ⟨by omega, by omega⟩ (by first | omega | decide | exact tt_lo _ | exact tt_hi _)
        · have z_c_75 := jc_eqL (a := y_74.toInt) (b := 0) c_75 rfl (by decide)
          refine jj_goto (tgt := 125) C dX11_printSeries_99 (by decide) ?_
          refine jj_iinc (v := nI (1 + k_56)) C dX11_printSeries_125 rfl (rl_addR (kn := 1) (by decide) (by omega)) (by decide) rfl ?_
          refine jj_goto (tgt := 67) C dX11_printSeries_128 (by decide) ?_
          refine jj_loc [0, 2, 3] rfl ?_
          exact ihL_55 pl_68 (1 + k_56) n_57 hok_69 hfr hfa hm hC hf_58 (by first | omega | decide | exact tt_lo _ | exact tt_hi _) (by first | omega | decide | exact tt_lo _ | exact tt_hi _) (by first | omega | decide | exact tt_lo _ | exact tt_hi _) (by first | omega | decide | exact tt_lo _ | exact tt_hi _) ⟨by omega, by omega⟩ (by first | omega | decide | exact tt_lo _ | exact tt_hi _)
  exact hL_55 _ pl_47 0 n_53 trivial hok_48 hfr hfa hm hC hf_54 (by first | omega | decide | exact tt_lo _ | exact tt_hi _) (by first | omega | decide | exact tt_lo _ | exact tt_hi _) (by first | omega | decide | exact tt_lo _ | exact tt_hi _) (by first | omega | decide | exact tt_lo _ | exact tt_hi _) ⟨by omega, by omega⟩ (Int.self_le_toNat _)

set_option maxHeartbeats 4000000 in
set_option maxRecDepth 100000 in
theorem rs_writeReport {l : Launch} (hl : l.stackTraces = false) (D : va_G) (cA : Nat → ClassId) (ak : (Nat → Nat) × (Nat → Nat)) {Kd : Nat → Nat} {h0 aw aa at0 ai af ap : Nat} (n6 : Nat) (B C9 : Int) (f P : Nat → Int64) (hk0 : Kd h0 = 1) (hkw : Kd aw = 2) (hka : Kd aa = 3) (hkt : Kd at0 = 4) (hki : Kd ai = 5) (hkf : Kd af = 6) (hkp : Kd ap = 7) (ln6 : (0 : Int) ≤ (n6 : Int)) (un6 : (n6 : Int) ≤ 10) (hK : rl_K B C9 f) (hHP : rl_HP B C9 P n6) (hB5 : B ≤ 43520000000) (hB0 : 12760000000 ≤ B) (hC9 : 0 ≤ C9 ∧ C9 ≤ 4000000000000000000) {pl0 : va_W} (hok : tt_ok rt_tk cA Kd pl0) (hm : rl_m pl0 h0 aw aa at0 ai af ap) (hC : tt_lc pl0 aw f) (hCp : tt_lc pl0 ap P) (hs6 : tt_at pl0 h0 6 (.int (nI n6))) : jj_M l D cA ak yX11_writeReport (.code yX11_writeReport cX11_writeReport 2 (some .int)) 21 463 0 0 ([] ++ pl0) [.ref h0] (tt_O (fun rx pl1 r => rx = [] ∧ tt_ok rt_tk cA Kd pl1 ∧ tt_fr Kd [(1, 7), (1, 24)] pl0 pl1 ∧ tt_fa Kd [13] pl0 pl1 ∧ ((rl_M (B + 30000000) (C9 + 2000) pl1 h0 aw ap ∧ ∃ v : Int32, r = some (.int v))))) (tt_OX (fun _ _ _ => False)) := by
  refine jj_start hl (by decide) jw_04505d628d (jj_le rfl) ?_
  intro p e s m args below meth c A hargs hA C hex hmn
  have hfr := tt_fr.refl (K := Kd) (WS := [(1, 7), (1, 24)]) pl0
  have hfa := tt_fa.refl (K := Kd) (WA := [13]) pl0
  have hI := hK.1
  have hP := hK.2.1
  have hH := hI.1.1
  obtain ⟨⟨g0a, g0b⟩, ⟨g1a, g1b⟩, ⟨g6a, g6b⟩, ⟨g7a, g7b⟩, ⟨g8a, g8b⟩⟩ := hH
  have hB : B ≤ 43920000000 := by omega
  have hB6 : B + 360000000 ≤ 43920000000 := by omega
  have h9a := hK.2.2.1
  have h9b := hK.2.2.2
  have h9 : 0 ≤ (f 9).toInt ∧ (f 9).toInt < 4611686018427387000 := ⟨h9a, by omega⟩
  refine jj_aload_n C dX11_writeReport_0 rfl ?_
  refine jj_iconst (v := 0) C dX11_writeReport_1 (by decide) ?_
  refine rl_put C hok jk_12 7 (by decide) jw_0a65e3738e (t := (0, (-2147483648), 2147483647)) hk0 (by decide) rfl rfl rfl (tt_ia (0 : Int32)) rfl rfl dX11_writeReport_2 (fun pl_1 hok_2 tr hn tl => ?_)
  replace hs6 := tr _ _ _ (Or.inr (by decide)) hs6
  have hf_3 := hn
  replace hm := hm.put tr (by decide)
  replace hfr := hfr.put hk0 tr (by decide)
  replace hC := tl _ _ hC
  replace hCp := tl _ _ hCp
  replace hfa := hfa.all tl
  refine jj_aload_n C dX11_writeReport_5 rfl ?_
  refine jj_iconst (v := 0) C dX11_writeReport_6 (by decide) ?_
  refine rl_put C hok_2 jk_12 24 (by decide) jw_51c009b58c (t := (0, 0, 2400)) hk0 (by decide) rfl rfl rfl (tt_iv (by decide) (by decide)) rfl rfl dX11_writeReport_7 (fun pl_4 hok_5 tr hn tl => ?_)
  replace hs6 := tr _ _ _ (Or.inr (by decide)) hs6
  replace hf_3 := tr _ _ _ (Or.inr (by decide)) hf_3
  have hf_6 := hn
  replace hm := hm.put tr (by decide)
  replace hfr := hfr.put hk0 tr (by decide)
  replace hC := tl _ _ hC
  replace hCp := tl _ _ hCp
  replace hfa := hfa.all tl
  refine jj_aload_n C dX11_writeReport_10 rfl ?_
  refine jj_ldcsw (k := 33) (tx := "day ") C dX11_writeReport_11 (by decide +kernel) ?_
  obtain ⟨qc, gs, hqc⟩ := tt_recv (cx := []) hok_5 hk0 (by decide) rfl
  refine tt_callV (rest := []) C (rs_printWord_day hl D cA ak 0 hk0 hkw hka hkt hki hkf hkp (by first | omega | decide) (by first | omega | decide) hok_5 hm hf_6) [] [] rfl rfl (by decide) (by decide) (by decide) qc hqc rfl rfl jw_31f5fe1455 jw_1ec544ea5d jw_0de28f9134 jw_f96c99f44d jw_b4eaee752c jn_X11_printWord rfl (jj_le rfl) (jj_le rfl) (jj_le rfl) (jj_le rfl) (jj_le rfl) dX11_writeReport_14 rfl (fun _ _ _ hX => hX.elim) (fun rx pl_7 r O_11 => ?_)
  obtain ⟨rfl, hok_8, hr_9, ha_10, hR_12⟩ := O_11
  replace hs6 := hr_9.at hk0 (by decide) (by decide) hs6
  replace hf_3 := hr_9.at hk0 (by decide) (by decide) hf_3
  replace hC := ha_10.at hkw (by decide) (by decide) hC
  replace hCp := ha_10.at hkp (by decide) (by decide) hCp
  replace hm := hm.fr hr_9 hk0 rfl
  replace hfr := hfr.trans (hr_9.sub (by decide))
  replace hfa := hfa.trans (ha_10.sub (by decide))
  obtain ⟨n_13, hf_14, ln_13, un_13, rfl⟩ := hR_12
  refine jj_aload_n C dX11_writeReport_17 rfl ?_
  refine jj_aload_n C dX11_writeReport_18 rfl ?_
  refine tt_getF C hok_8 jk_12 0 (by decide) jw_34eaf3ba8b (t := (2, 2, 0)) hk0 (by decide) rfl rfl hm.1 dX11_writeReport_19 ?_
  refine jj_iconst (v := 5) C dX11_writeReport_22 (by decide) ?_
  refine rl_lald C hok_8 (t := (1, (-9223372036854775808), 9223372036854775807)) hkw (by decide) rfl (k := 5) (v := (f 5)) (vp_in_iff.mpr (by decide)) hC (by decide) rfl dX11_writeReport_23 ?_
  obtain ⟨qc, gs, hqc⟩ := tt_recv (cx := []) hok_8 hk0 (by decide) rfl
  refine tt_callV (rest := []) C (rs_printNumber_18 hl D cA ak n_13 (f 5) hk0 hkw hka hkt hki hkf hkp (by first | omega | decide) (by first | omega | decide) (rz_hi _) hok_8 hm hf_14) [] [] rfl rfl (by decide) (by decide) (by decide) qc hqc rfl rfl jw_bb61e96786 jw_d73f5cdc0e jw_e0101bc9a3 jw_f96c99f44d jw_48170ecb3c jn_X11_printNumber rfl (jj_le rfl) (jj_le rfl) (jj_le rfl) (jj_le rfl) (jj_le rfl) dX11_writeReport_24 rfl (fun _ _ _ hX => hX.elim) (fun rx pl_15 r O_19 => ?_)
  obtain ⟨rfl, hok_16, hr_17, ha_18, hR_20⟩ := O_19
  replace hs6 := hr_17.at hk0 (by decide) (by decide) hs6
  replace hf_3 := hr_17.at hk0 (by decide) (by decide) hf_3
  replace hC := ha_18.at hkw (by decide) (by decide) hC
  replace hCp := ha_18.at hkp (by decide) (by decide) hCp
  replace hm := hm.fr hr_17 hk0 rfl
  replace hfr := hfr.trans (hr_17.sub (by decide))
  replace hfa := hfa.trans (ha_18.sub (by decide))
  obtain ⟨n_21, hf_22, ln_21, un_21, rfl⟩ := hR_20
  refine jj_aload_n C dX11_writeReport_27 rfl ?_
  refine jj_ldcsw (k := 34) (tx := " assets ") C dX11_writeReport_28 (by decide +kernel) ?_
  obtain ⟨qc, gs, hqc⟩ := tt_recv (cx := []) hok_16 hk0 (by decide) rfl
  refine tt_callV (rest := []) C (rs_printWord_assets hl D cA ak n_21 hk0 hkw hka hkt hki hkf hkp (by first | omega | decide) (by first | omega | decide) hok_16 hm hf_22) [] [] rfl rfl (by decide) (by decide) (by decide) qc hqc rfl rfl jw_31f5fe1455 jw_1ec544ea5d jw_0de28f9134 jw_f96c99f44d jw_b4eaee752c jn_X11_printWord rfl (jj_le rfl) (jj_le rfl) (jj_le rfl) (jj_le rfl) (jj_le rfl) dX11_writeReport_31 rfl (fun _ _ _ hX => hX.elim) (fun rx pl_23 r O_27 => ?_)
  obtain ⟨rfl, hok_24, hr_25, ha_26, hR_28⟩ := O_27
  replace hs6 := hr_25.at hk0 (by decide) (by decide) hs6
  replace hf_3 := hr_25.at hk0 (by decide) (by decide) hf_3
  replace hC := ha_26.at hkw (by decide) (by decide) hC
  replace hCp := ha_26.at hkp (by decide) (by decide) hCp
  replace hm := hm.fr hr_25 hk0 rfl
  replace hfr := hfr.trans (hr_25.sub (by decide))
  replace hfa := hfa.trans (ha_26.sub (by decide))
  obtain ⟨n_29, hf_30, ln_29, un_29, rfl⟩ := hR_28
  refine jj_aload_n C dX11_writeReport_34 rfl ?_
  refine jj_aload_n C dX11_writeReport_35 rfl ?_
  obtain ⟨qc, gs, hqc⟩ := tt_recv (cx := []) hok_24 hk0 (by decide) rfl
  refine tt_callV (rest := [.ref h0]) C (rs_netAll hl D cA ak B f hk0 hkw hka hkt hki hkf hkp hI hB hok_24 hm hC) [] [] rfl rfl (by decide) (by decide) (by decide) qc hqc rfl rfl jw_2839123437 jw_0539aa951d jw_9a758300b1 jw_f96c99f44d jw_8369135f54 jn_X11_netAll rfl (jj_le rfl) (jj_le rfl) (jj_le rfl) (jj_le rfl) (jj_le rfl) dX11_writeReport_36 rfl (fun _ _ _ hX => hX.elim) (fun rx pl_31 r O_35 => ?_)
  obtain ⟨rfl, hok_32, hr_33, ha_34, hR_36⟩ := O_35
  replace hs6 := hr_33.at hk0 (by decide) (by decide) hs6
  replace hf_3 := hr_33.at hk0 (by decide) (by decide) hf_3
  replace hf_30 := hr_33.at hk0 (by decide) (by decide) hf_30
  replace hC := ha_34.at hkw (by decide) (by decide) hC
  replace hCp := ha_34.at hkp (by decide) (by decide) hCp
  replace hm := hm.fr hr_33 hk0 rfl
  replace hfr := hfr.trans (hr_33.sub (by decide))
  replace hfa := hfa.trans (ha_34.sub (by decide))
  obtain ⟨y_37, ly_37, uy_37, rfl⟩ := hR_36
  obtain ⟨qc, gs, hqc⟩ := tt_recv (cx := []) hok_32 hk0 (by decide) rfl
  refine tt_callV (rest := []) C (rs_printNumber_18 hl D cA ak n_29 y_37 hk0 hkw hka hkt hki hkf hkp (by first | omega | decide) (by first | omega | decide) (rz_hi _) hok_32 hm hf_30) [] [] rfl rfl (by decide) (by decide) (by decide) qc hqc rfl rfl jw_bb61e96786 jw_d73f5cdc0e jw_e0101bc9a3 jw_f96c99f44d jw_48170ecb3c jn_X11_printNumber rfl (jj_le rfl) (jj_le rfl) (jj_le rfl) (jj_le rfl) (jj_le rfl) dX11_writeReport_39 rfl (fun _ _ _ hX => hX.elim) (fun rx pl_38 r O_42 => ?_)
  obtain ⟨rfl, hok_39, hr_40, ha_41, hR_43⟩ := O_42
  replace hs6 := hr_40.at hk0 (by decide) (by decide) hs6
  replace hf_3 := hr_40.at hk0 (by decide) (by decide) hf_3
  replace hC := ha_41.at hkw (by decide) (by decide) hC
  replace hCp := ha_41.at hkp (by decide) (by decide) hCp
  replace hm := hm.fr hr_40 hk0 rfl
  replace hfr := hfr.trans (hr_40.sub (by decide))
  replace hfa := hfa.trans (ha_41.sub (by decide))
  obtain ⟨n_44, hf_45, ln_44, un_44, rfl⟩ := hR_43
  refine jj_aload_n C dX11_writeReport_42 rfl ?_
  refine jj_bipush (v := 10) C dX11_writeReport_43 (by decide) ?_
  obtain ⟨qc, gs, hqc⟩ := tt_recv (cx := []) hok_39 hk0 (by decide) rfl
  refine tt_callV (rest := []) C (rs_print hl D cA ak n_44 (10 : Int32) hk0 hkw hka hkt hki hkf hkp (by first | omega | decide) (by first | omega | decide) hok_39 hm hf_45) [] [] rfl rfl (by decide) (by decide) (by decide) qc hqc rfl rfl jw_5467bceb3b jw_6617e6021e jw_7548414167 jw_f96c99f44d jw_b7d8894a18 jn_X11_print rfl (jj_le rfl) (jj_le rfl) (jj_le rfl) (jj_le rfl) (jj_le rfl) dX11_writeReport_45 rfl (fun _ _ _ hX => hX.elim) (fun rx pl_46 r O_50 => ?_)
  obtain ⟨rfl, hok_47, hr_48, ha_49, hR_51⟩ := O_50
  replace hs6 := hr_48.at hk0 (by decide) (by decide) hs6
  replace hf_3 := hr_48.at hk0 (by decide) (by decide) hf_3
  replace hC := ha_49.at hkw (by decide) (by decide) hC
  replace hCp := ha_49.at hkp (by decide) (by decide) hCp
  replace hm := hm.fr hr_48 hk0 rfl
  replace hfr := hfr.trans (hr_48.sub (by decide))
  replace hfa := hfa.trans (ha_49.sub (by decide))
  obtain ⟨n_52, hf_53, ln_52, un_52, rfl⟩ := hR_51
  refine jj_iconst (v := 0) C dX11_writeReport_48 (by decide) ?_
  refine jj_istore_n C dX11_writeReport_49 (by decide) rfl ?_
  have hL_54 : ∀ (N : Nat) (pl : va_W) (k_55 : Nat) (n_57 : Nat), True → tt_ok rt_tk cA Kd pl → tt_fr Kd [(1, 7), (1, 24)] pl0 pl → tt_fa Kd [13] pl0 pl → rl_m pl h0 aw aa at0 ai af ap → tt_at pl h0 6 (.int (nI n6)) → tt_lc pl aw f → tt_lc pl ap P → tt_at pl h0 24 (.int (nI n_57)) → (0 : Int) ≤ (k_55 : Int) → (k_55 : Int) ≤ 6 → (0 : Int) ≤ (n_57 : Int) → (n_57 : Int) ≤ 2400 → (((n_57 : Nat) : Int) ≤ 60 + 313 * ((k_55 : Nat) : Int)) → (2147483648 - (k_55 : Int) ≤ (N : Int)) → jj_J p l e (jj_rm 21 463 0 0) s m args below meth c 2 A (vx_MQ below (jj_q D A (tt_O (fun rx pl1 r => rx = [] ∧ tt_ok rt_tk cA Kd pl1 ∧ tt_fr Kd [(1, 7), (1, 24)] pl0 pl1 ∧ tt_fa Kd [13] pl0 pl1 ∧ ((rl_M (B + 30000000) (C9 + 2000) pl1 h0 aw ap ∧ ∃ v : Int32, r = some (.int v)))))) (jj_x D A (tt_OX (fun _ _ _ => False))) args s 0 0 A) (jj_X D A ([] ++ pl)) 0 0 50 [(1, .int (nI k_55)), (0, .ref h0)] [] := by
    intro NL_54
    induction NL_54 with
    | zero => intro pl k_55 n_57 _ hok hfr hfa hm hf_56 hC hCp hf_58 lk_55 uk_55 ln_57 un_57 hS9 hNL_54; exfalso; omega
    | succ NL_54 ihL_54 =>
      intro pl k_55 n_57 _ hok hfr hfa hm hf_56 hC hCp hf_58 lk_55 uk_55 ln_57 un_57 hS9 hNL_54
      replace ihL_54 := fun pl k_55 n_57 h1 => ihL_54 pl k_55 n_57 trivial h1
      refine jj_iload_n C dX11_writeReport_50 rfl ?_
      refine jj_i2l C dX11_writeReport_51 rfl ?_
      refine jj_aload_n C dX11_writeReport_52 rfl ?_
      refine tt_getF C hok jk_12 0 (by decide) jw_34eaf3ba8b (t := (2, 2, 0)) hk0 (by decide) rfl rfl hm.1 dX11_writeReport_53 ?_
      refine jj_bipush (v := 6) C dX11_writeReport_56 (by decide) ?_
      refine rl_lald C hok (t := (1, (-9223372036854775808), 9223372036854775807)) hkw (by decide) rfl (k := 6) (v := (f 6)) (vp_in_iff.mpr (by decide)) hC (by decide) rfl dX11_writeReport_58 ?_
      refine jj_lcmp_ge (tgt := 77) C dX11_writeReport_59 dX11_writeReport_60 (by decide) (fun c_59 => ?_) (fun c_59 => ?_)
      · have z_c_59 := jc_leL (a := (f 6).toInt) (b := ((k_55 : Nat) : Int)) c_59 rfl (rl_tl (by omega))
        refine jj_aload_n C dX11_writeReport_77 rfl ?_
        refine tt_getF C hok jk_12 24 (by decide) jw_51c009b58c (t := (0, 0, 2400)) hk0 (by decide) rfl rfl hf_58 dX11_writeReport_78 ?_
        exact jj_iret C ⟨[], pl, rfl, rfl, hok, hfr, hfa, ⟨⟨_, _, n6, hC, hCp, hf_56, (by omega), (hK.mono (by omega) (by omega)), hHP.mono (by omega) (by omega)⟩, (nI n_57), rfl⟩⟩ dX11_writeReport_81 (jj_le rfl) (jj_le rfl)
      · have z_c_59 := jc_nleL (a := (f 6).toInt) (b := ((k_55 : Nat) : Int)) c_59 rfl (rl_tl (by omega))
        refine jj_aload_n C dX11_writeReport_63 rfl ?_
        refine jj_iload_n C dX11_writeReport_64 rfl ?_
        refine tt_call0S (rest := [.ref h0]) C (rn_seriesAt hl D cA ak k_55 (16 + 5 * k_55) (by omega)) jw_6251557f40 jw_b2cd40a13f jw_f96c99f44d jw_6245231363 jn_X11_seriesAt rfl (jj_le rfl) (jj_le rfl) (jj_le rfl) (jj_le rfl) (jj_le rfl) dX11_writeReport_65 rfl (fun w1 r hO => ?_)
        obtain ⟨-, rfl⟩ := hO
        obtain ⟨qc, gs, hqc⟩ := tt_recv (cx := []) hok hk0 (by decide) rfl
        refine tt_callV (rest := []) C (rs_printSeries hl D cA ak n_57 k_55 B f hk0 hkw hka hkt hki hkf hkp (by first | omega | decide) (by first | omega | decide) (by unfold rnS; omega) hI hP hok hm hC hf_58) [] [] rfl rfl (by decide) (by decide) (by decide) qc hqc rfl rfl jw_28b6fac6d9 jw_21bcf8eb6e jw_a4728b372a jw_f96c99f44d jw_b9b1520d5d jn_X11_printSeries rfl (jj_le rfl) (jj_le rfl) (jj_le rfl) (jj_le rfl) (jj_le rfl) dX11_writeReport_68 rfl (fun _ _ _ hX => hX.elim) (fun rx pl_60 r O_64 => ?_)
        obtain ⟨rfl, hok_61, hr_62, ha_63, hR_65⟩ := O_64
        replace hf_56 := hr_62.at hk0 (by decide) (by decide) hf_56
        replace hC := ha_63.at hkw (by decide) (by decide) hC
        replace hCp := ha_63.at hkp (by decide) (by decide) hCp
        replace hm := hm.fr hr_62 hk0 rfl
        replace hfr := hfr.trans (hr_62.sub (by decide))
        replace hfa := hfa.trans (ha_63.sub (by decide))
        obtain ⟨n_66, hf_67, ln_66, un_66, rfl⟩ := hR_65
        refine jj_iinc (v := nI (1 + k_55)) C dX11_writeReport_71 rfl (rl_addR (kn := 1) (by decide) (by omega)) (by decide) rfl ?_
        refine jj_goto (tgt := 50) C dX11_writeReport_74 (by decide) ?_
        exact ihL_54 pl_60 (1 + k_55) n_66 hok_61 hfr hfa hm hf_56 hC hCp hf_67 (by first | omega | decide | exact tt_lo _ | exact tt_hi _) (by first | omega | decide | exact tt_lo _ | exact tt_hi _) (by first | omega | decide | exact tt_lo _ | exact tt_hi _) (by first | omega | decide | exact tt_lo _ | exact tt_hi _) (by omega) (by first | omega | decide | exact tt_lo _ | exact tt_hi _)
  exact hL_54 _ pl_46 0 n_52 trivial hok_47 hfr hfa hm hs6 hC hCp hf_53 (by first | omega | decide | exact tt_lo _ | exact tt_hi _) (by first | omega | decide | exact tt_lo _ | exact tt_hi _) (by first | omega | decide | exact tt_lo _ | exact tt_hi _) (by first | omega | decide | exact tt_lo _ | exact tt_hi _) (by omega) (Int.self_le_toNat _)
