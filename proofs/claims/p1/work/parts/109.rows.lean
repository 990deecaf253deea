set_option maxHeartbeats 4000000 in
set_option maxRecDepth 100000 in
theorem ct_J0_checkIndex_df160_11 {l : Launch} (hl : l.stackTraces = false) (D : va_G) (cA : Nat → ClassId) (ak : (Nat → Nat) × (Nat → Nat)) : jj_M l D cA ak yJ0_checkIndex_df160 (.code yJ0_checkIndex_df160 cJ0_checkIndex_df160 2 none) 1 22 0 0 [] [.int 6, .int 8] (fun (w : va_W) (r : Option Value) => (w = [] ∧ r = none)) jj_noX := by
  refine jj_start hl (by decide) jw_904 (jj_le rfl) ?_
  intro p e s m args below meth c A hargs hA C hex hmn
  refine jj_iload_n C dJ0_checkIndex_df160_0 rfl ?_
  refine jj_iload_n C dJ0_checkIndex_df160_1 rfl ?_
  refine jj_gfm C jw_898 dJ0_checkIndex_df160_2 (fun t_1 => ?_) ?_
  · refine jq_callS (rest := []) C (ct_J3_checkIndex_8e157_21 hl D cA ak t_1) [] [] rfl rfl (by decide) (by decide) (by decide) jw_900 jw_902 jw_901 jw_899 jn_J3_checkIndex_8e157 rfl (jj_le rfl) (jj_le rfl) (jj_le rfl) (jj_le rfl) (jj_le rfl) dJ0_checkIndex_df160_5 rfl (fun _ _ hX => hX.elim) (fun w1 r O_3 => ?_)
    obtain ⟨rfl, rfl⟩ := O_3
    refine jj_apd rfl ?_
    refine jj_pop C dJ0_checkIndex_df160_8 rfl ?_
    exact jj_vret C ⟨rfl, rfl⟩ dJ0_checkIndex_df160_9 (jj_le rfl) (jj_le rfl)
  · refine jq_callS (rest := []) C (ct_J3_checkIndex_8e157_22 hl D cA ak) [] [] rfl rfl (by decide) (by decide) (by decide) jw_900 jw_902 jw_901 jw_899 jn_J3_checkIndex_8e157 rfl (jj_le rfl) (jj_le rfl) (jj_le rfl) (jj_le rfl) (jj_le rfl) dJ0_checkIndex_df160_5 rfl (fun _ _ hX => hX.elim) (fun w1 r O_5 => ?_)
    obtain ⟨rfl, rfl⟩ := O_5
    refine jj_apd rfl ?_
    refine jj_pop C dJ0_checkIndex_df160_8 rfl ?_
    exact jj_vret C ⟨rfl, rfl⟩ dJ0_checkIndex_df160_9 (jj_le rfl) (jj_le rfl)


set_option maxHeartbeats 4000000 in
set_option maxRecDepth 100000 in
theorem ct_J1_charAt_3b067_11 {l : Launch} (hl : l.stackTraces = false) (D : va_G) (cA : Nat → ClassId) (ak : (Nat → Nat) × (Nat → Nat)) : jj_M l D cA ak yJ1_charAt_3b067 (.code yJ1_charAt_3b067 cJ1_charAt_3b067 2 (some .char)) 2 43 0 0 [] [.ref (ak.2 15), .int 6] (fun (w : va_W) (r : Option Value) => (w = [] ∧ r = some (.int 115))) jj_noX := by
  refine jj_start hl (by decide) jw_908 (jj_le rfl) ?_
  intro p e s m args below meth c A hargs hA C hex hmn
  refine jj_iload_n C dJ1_charAt_3b067_0 rfl ?_
  refine jj_aload_n C dJ1_charAt_3b067_1 rfl ?_
  refine jj_slen (k := 15) (v := 8) C (by decide) (by decide) dJ1_charAt_3b067_2 ?_
  refine jq_callS (rest := []) C (ct_J0_checkIndex_df160_11 hl D cA ak) [] [] rfl rfl (by decide) (by decide) (by decide) jw_905 jw_906 jw_715 jw_904 jn_J0_checkIndex_df160 rfl (jj_le rfl) (jj_le rfl) (jj_le rfl) (jj_le rfl) (jj_le rfl) dJ1_charAt_3b067_3 rfl (fun _ _ hX => hX.elim) (fun w1 r O_2 => ?_)
  obtain ⟨rfl, rfl⟩ := O_2
  refine jj_apd rfl ?_
  refine jj_aload_n C dJ1_charAt_3b067_6 rfl ?_
  refine jj_iload_n C dJ1_charAt_3b067_7 rfl ?_
  refine jj_sbyt (k := 15) (v := 115) C (by decide) (vp_in_iff.mpr (by decide)) (by decide) dJ1_charAt_3b067_8 ?_
  refine jj_sipush (v := 255) C dJ1_charAt_3b067_9 (by decide) ?_
  refine jj_iand (v := 115) C dJ1_charAt_3b067_12 (by decide) ?_
  refine jj_i2c (v := 115) C dJ1_charAt_3b067_13 (by decide) ?_
  exact jj_zret C rfl ⟨rfl, rfl⟩ dJ1_charAt_3b067_14 (jj_le rfl) (jj_le rfl)


set_option maxHeartbeats 4000000 in
set_option maxRecDepth 100000 in
theorem ct_J0_charAt_5068e_11 {l : Launch} (hl : l.stackTraces = false) (D : va_G) (cA : Nat → ClassId) (ak : (Nat → Nat) × (Nat → Nat)) : jj_M l D cA ak yJ0_charAt_5068e (.code yJ0_charAt_5068e cJ0_charAt_5068e 2 (some .char)) 3 64 0 0 [] [.ref (ak.1 15), .int 6] (fun (w : va_W) (r : Option Value) => (w = [] ∧ r = some (.int 115))) jj_noX := by
  refine jj_start hl (by decide) jw_913 (jj_le rfl) ?_
  intro p e s m args below meth c A hargs hA C hex hmn
  refine jj_aload_n C dJ0_charAt_5068e_0 rfl ?_
  refine jq_callVs (rest := []) C (ct_J0_isLatin1_aae02_2 hl D cA ak) [] [] rfl rfl (by decide) (by decide) (by decide) 15 (by decide) rfl jw_894 jw_895 jw_896 jw_715 jw_893 jn_J0_isLatin1_aae02 rfl (jj_le rfl) (jj_le rfl) (jj_le rfl) (jj_le rfl) (jj_le rfl) dJ0_charAt_5068e_1 rfl (fun _ _ hX => hX.elim) (fun w1 r O_2 => ?_)
  obtain ⟨rfl, rfl⟩ := O_2
  refine jj_apd rfl ?_
  refine jj_if_eqF (tgt := 16) C dJ0_charAt_5068e_4 (by decide) (by decide) ?_
  refine jj_aload_n C dJ0_charAt_5068e_7 rfl ?_
  refine jj_sval (k := 15) C (by decide) jw_710 dJ0_charAt_5068e_8 ?_
  refine jj_iload_n C dJ0_charAt_5068e_11 rfl ?_
  refine jq_callS (rest := []) C (ct_J1_charAt_3b067_11 hl D cA ak) [] [] rfl rfl (by decide) (by decide) (by decide) jw_909 jw_911 jw_910 jw_908 jn_J1_charAt_3b067 rfl (jj_le rfl) (jj_le rfl) (jj_le rfl) (jj_le rfl) (jj_le rfl) dJ0_charAt_5068e_12 rfl (fun _ _ hX => hX.elim) (fun w1 r O_4 => ?_)
  obtain ⟨rfl, rfl⟩ := O_4
  refine jj_apd rfl ?_
  exact jj_zret C rfl ⟨rfl, rfl⟩ dJ0_charAt_5068e_15 (jj_le rfl) (jj_le rfl)


set_option maxHeartbeats 4000000 in
set_option maxRecDepth 100000 in
theorem ct_X5_putByte_12 {l : Launch} (hl : l.stackTraces = false) (D : va_G) (cA : Nat → ClassId) (ak : (Nat → Nat) × (Nat → Nat)) (h0 h1 h2 : Nat) : jj_M l D cA ak yX5_putByte (.code yX5_putByte cX5_putByte 2 none) 0 0 0 0 [(h0, .inr (6, [.ref h1, .int 11, .ref h2])), (h1, .inl (cA 0, 1300, .inl (upd (upd (upd (upd (upd (upd (upd (upd (upd (upd (upd (fun _ => 0) 0 100) 1 97) 2 121) 3 32) 4 48) 5 32) 6 97) 7 115) 8 115) 9 101) 10 116)))] [.ref h0, .int 115] (fun (w : va_W) (r : Option Value) => (w = [(h0, .inr (6, [.ref h1, .int 12, .ref h2])), (h1, .inl (cA 0, 1300, .inl (upd (upd (upd (upd (upd (upd (upd (upd (upd (upd (upd (upd (fun _ => 0) 0 100) 1 97) 2 121) 3 32) 4 48) 5 32) 6 97) 7 115) 8 115) 9 101) 10 116) 11 115)))] ∧ r = none)) jj_noX := by
  refine jj_start hl (by decide) jw_918 (jj_le rfl) ?_
  intro p e s m args below meth c A hargs hA C hex hmn
  refine jj_aload_n C dX5_putByte_0 rfl ?_
  refine jj_get C jk_6 1 (by decide) jw_173 0 rfl rfl dX5_putByte_1 ?_
  refine jj_sipush (v := 1300) C dX5_putByte_4 (by decide) ?_
  refine jj_icmp_geF (tgt := 30) C dX5_putByte_7 (by decide) (by decide) ?_
  refine jj_aload_n C dX5_putByte_10 rfl ?_
  refine jj_get C jk_6 0 (by decide) jw_172 0 rfl rfl dX5_putByte_11 ?_
  refine jj_aload_n C dX5_putByte_14 rfl ?_
  refine jj_get C jk_6 1 (by decide) jw_173 0 rfl rfl dX5_putByte_15 ?_
  refine jj_iload_n C dX5_putByte_18 rfl ?_
  refine jj_bast C 1 rfl (vp_in_iff.mpr (by decide)) (g := (upd (upd (upd (upd (upd (upd (upd (upd (upd (upd (upd (upd (fun _ => 0) 0 100) 1 97) 2 121) 3 32) 4 48) 5 32) 6 97) 7 115) 8 115) 9 101) 10 116) 11 115)) rfl rfl dX5_putByte_19 ?_
  refine jj_aload_n C dX5_putByte_20 rfl ?_
  refine jj_dup C dX5_putByte_21 rfl ?_
  refine jj_get C jk_6 1 (by decide) jw_173 0 rfl rfl dX5_putByte_22 ?_
  refine jj_iconst (v := 1) C dX5_putByte_25 (by decide) ?_
  refine jj_iadd (v := 12) C dX5_putByte_26 (by decide) ?_
  refine jj_put C jk_6 1 (by decide) jw_173 rfl 0 rfl rfl rfl rfl rfl dX5_putByte_27 ?_
  exact jj_vret C ⟨rfl, rfl⟩ dX5_putByte_30 (jj_le rfl) (jj_le rfl)


set_option maxHeartbeats 4000000 in
set_option maxRecDepth 100000 in
theorem ct_J3_checkIndex_8e157_23 {l : Launch} (hl : l.stackTraces = false) (D : va_G) (cA : Nat → ClassId) (ak : (Nat → Nat) × (Nat → Nat)) (h0 : Nat) : jj_M l D cA ak yJ3_checkIndex_8e157 (.code yJ3_checkIndex_8e157 cJ3_checkIndex_8e157 3 (some .int)) 0 0 0 0 [] [.int 7, .int 8, .ref h0] (fun (w : va_W) (r : Option Value) => (w = [] ∧ r = some (.int 7))) jj_noX := by
  refine jj_start hl (by decide) jw_899 (jj_le rfl) ?_
  intro p e s m args below meth c A hargs hA C hex hmn
  refine jj_iload_n C dJ3_checkIndex_8e157_0 rfl ?_
  refine jj_if_ltF (tgt := 9) C dJ3_checkIndex_8e157_1 (by decide) (by decide) ?_
  refine jj_iload_n C dJ3_checkIndex_8e157_4 rfl ?_
  refine jj_iload_n C dJ3_checkIndex_8e157_5 rfl ?_
  refine jj_icmp_ltT (tgt := 16) C dJ3_checkIndex_8e157_6 (by decide) (by decide) ?_
  refine jj_iload_n C dJ3_checkIndex_8e157_16 rfl ?_
  exact jj_iret C ⟨rfl, rfl⟩ dJ3_checkIndex_8e157_17 (jj_le rfl) (jj_le rfl)


set_option maxHeartbeats 4000000 in
set_option maxRecDepth 100000 in
theorem ct_J3_checkIndex_8e157_24 {l : Launch} (hl : l.stackTraces = false) (D : va_G) (cA : Nat → ClassId) (ak : (Nat → Nat) × (Nat → Nat)) : jj_M l D cA ak yJ3_checkIndex_8e157 (.code yJ3_checkIndex_8e157 cJ3_checkIndex_8e157 3 (some .int)) 0 0 0 0 [] [.int 7, .int 8, .null] (fun (w : va_W) (r : Option Value) => (w = [] ∧ r = some (.int 7))) jj_noX := by
  refine jj_start hl (by decide) jw_899 (jj_le rfl) ?_
  intro p e s m args below meth c A hargs hA C hex hmn
  refine jj_iload_n C dJ3_checkIndex_8e157_0 rfl ?_
  refine jj_if_ltF (tgt := 9) C dJ3_checkIndex_8e157_1 (by decide) (by decide) ?_
  refine jj_iload_n C dJ3_checkIndex_8e157_4 rfl ?_
  refine jj_iload_n C dJ3_checkIndex_8e157_5 rfl ?_
  refine jj_icmp_ltT (tgt := 16) C dJ3_checkIndex_8e157_6 (by decide) (by decide) ?_
  refine jj_iload_n C dJ3_checkIndex_8e157_16 rfl ?_
  exact jj_iret C ⟨rfl, rfl⟩ dJ3_checkIndex_8e157_17 (jj_le rfl) (jj_le rfl)


set_option maxHeartbeats 4000000 in
set_option maxRecDepth 100000 in
theorem ct_J0_checkIndex_df160_12 {l : Launch} (hl : l.stackTraces = false) (D : va_G) (cA : Nat → ClassId) (ak : (Nat → Nat) × (Nat → Nat)) : jj_M l D cA ak yJ0_checkIndex_df160 (.code yJ0_checkIndex_df160 cJ0_checkIndex_df160 2 none) 1 22 0 0 [] [.int 7, .int 8] (fun (w : va_W) (r : Option Value) => (w = [] ∧ r = none)) jj_noX := by
  refine jj_start hl (by decide) jw_904 (jj_le rfl) ?_
  intro p e s m args below meth c A hargs hA C hex hmn
  refine jj_iload_n C dJ0_checkIndex_df160_0 rfl ?_
  refine jj_iload_n C dJ0_checkIndex_df160_1 rfl ?_
  refine jj_gfm C jw_898 dJ0_checkIndex_df160_2 (fun t_1 => ?_) ?_
  · refine jq_callS (rest := []) C (ct_J3_checkIndex_8e157_23 hl D cA ak t_1) [] [] rfl rfl (by decide) (by decide) (by decide) jw_900 jw_902 jw_901 jw_899 jn_J3_checkIndex_8e157 rfl (jj_le rfl) (jj_le rfl) (jj_le rfl) (jj_le rfl) (jj_le rfl) dJ0_checkIndex_df160_5 rfl (fun _ _ hX => hX.elim) (fun w1 r O_3 => ?_)
    obtain ⟨rfl, rfl⟩ := O_3
    refine jj_apd rfl ?_
    refine jj_pop C dJ0_checkIndex_df160_8 rfl ?_
    exact jj_vret C ⟨rfl, rfl⟩ dJ0_checkIndex_df160_9 (jj_le rfl) (jj_le rfl)
  · refine jq_callS (rest := []) C (ct_J3_checkIndex_8e157_24 hl D cA ak) [] [] rfl rfl (by decide) (by decide) (by decide) jw_900 jw_902 jw_901 jw_899 jn_J3_checkIndex_8e157 rfl (jj_le rfl) (jj_le rfl) (jj_le rfl) (jj_le rfl) (jj_le rfl) dJ0_checkIndex_df160_5 rfl (fun _ _ hX => hX.elim) (fun w1 r O_5 => ?_)
    obtain ⟨rfl, rfl⟩ := O_5
    refine jj_apd rfl ?_
    refine jj_pop C dJ0_checkIndex_df160_8 rfl ?_
    exact jj_vret C ⟨rfl, rfl⟩ dJ0_checkIndex_df160_9 (jj_le rfl) (jj_le rfl)


set_option maxHeartbeats 4000000 in
set_option maxRecDepth 100000 in
theorem ct_J1_charAt_3b067_12 {l : Launch} (hl : l.stackTraces = false) (D : va_G) (cA : Nat → ClassId) (ak : (Nat → Nat) × (Nat → Nat)) : jj_M l D cA ak yJ1_charAt_3b067 (.code yJ1_charAt_3b067 cJ1_charAt_3b067 2 (some .char)) 2 43 0 0 [] [.ref (ak.2 15), .int 7] (fun (w : va_W) (r : Option Value) => (w = [] ∧ r = some (.int 32))) jj_noX := by
  refine jj_start hl (by decide) jw_908 (jj_le rfl) ?_
  intro p e s m args below meth c A hargs hA C hex hmn
  refine jj_iload_n C dJ1_charAt_3b067_0 rfl ?_
  refine jj_aload_n C dJ1_charAt_3b067_1 rfl ?_
  refine jj_slen (k := 15) (v := 8) C (by decide) (by decide) dJ1_charAt_3b067_2 ?_
  refine jq_callS (rest := []) C (ct_J0_checkIndex_df160_12 hl D cA ak) [] [] rfl rfl (by decide) (by decide) (by decide) jw_905 jw_906 jw_715 jw_904 jn_J0_checkIndex_df160 rfl (jj_le rfl) (jj_le rfl) (jj_le rfl) (jj_le rfl) (jj_le rfl) dJ1_charAt_3b067_3 rfl (fun _ _ hX => hX.elim) (fun w1 r O_2 => ?_)
  obtain ⟨rfl, rfl⟩ := O_2
  refine jj_apd rfl ?_
  refine jj_aload_n C dJ1_charAt_3b067_6 rfl ?_
  refine jj_iload_n C dJ1_charAt_3b067_7 rfl ?_
  refine jj_sbyt (k := 15) (v := 32) C (by decide) (vp_in_iff.mpr (by decide)) (by decide) dJ1_charAt_3b067_8 ?_
  refine jj_sipush (v := 255) C dJ1_charAt_3b067_9 (by decide) ?_
  refine jj_iand (v := 32) C dJ1_charAt_3b067_12 (by decide) ?_
  refine jj_i2c (v := 32) C dJ1_charAt_3b067_13 (by decide) ?_
  exact jj_zret C rfl ⟨rfl, rfl⟩ dJ1_charAt_3b067_14 (jj_le rfl) (jj_le rfl)


set_option maxHeartbeats 4000000 in
set_option maxRecDepth 100000 in
theorem ct_J0_charAt_5068e_12 {l : Launch} (hl : l.stackTraces = false) (D : va_G) (cA : Nat → ClassId) (ak : (Nat → Nat) × (Nat → Nat)) : jj_M l D cA ak yJ0_charAt_5068e (.code yJ0_charAt_5068e cJ0_charAt_5068e 2 (some .char)) 3 64 0 0 [] [.ref (ak.1 15), .int 7] (fun (w : va_W) (r : Option Value) => (w = [] ∧ r = some (.int 32))) jj_noX := by
  refine jj_start hl (by decide) jw_913 (jj_le rfl) ?_
  intro p e s m args below meth c A hargs hA C hex hmn
  refine jj_aload_n C dJ0_charAt_5068e_0 rfl ?_
  refine jq_callVs (rest := []) C (ct_J0_isLatin1_aae02_2 hl D cA ak) [] [] rfl rfl (by decide) (by decide) (by decide) 15 (by decide) rfl jw_894 jw_895 jw_896 jw_715 jw_893 jn_J0_isLatin1_aae02 rfl (jj_le rfl) (jj_le rfl) (jj_le rfl) (jj_le rfl) (jj_le rfl) dJ0_charAt_5068e_1 rfl (fun _ _ hX => hX.elim) (fun w1 r O_2 => ?_)
  obtain ⟨rfl, rfl⟩ := O_2
  refine jj_apd rfl ?_
  refine jj_if_eqF (tgt := 16) C dJ0_charAt_5068e_4 (by decide) (by decide) ?_
  refine jj_aload_n C dJ0_charAt_5068e_7 rfl ?_
  refine jj_sval (k := 15) C (by decide) jw_710 dJ0_charAt_5068e_8 ?_
  refine jj_iload_n C dJ0_charAt_5068e_11 rfl ?_
  refine jq_callS (rest := []) C (ct_J1_charAt_3b067_12 hl D cA ak) [] [] rfl rfl (by decide) (by decide) (by decide) jw_909 jw_911 jw_910 jw_908 jn_J1_charAt_3b067 rfl (jj_le rfl) (jj_le rfl) (jj_le rfl) (jj_le rfl) (jj_le rfl) dJ0_charAt_5068e_12 rfl (fun _ _ hX => hX.elim) (fun w1 r O_4 => ?_)
  obtain ⟨rfl, rfl⟩ := O_4
  refine jj_apd rfl ?_
  exact jj_zret C rfl ⟨rfl, rfl⟩ dJ0_charAt_5068e_15 (jj_le rfl) (jj_le rfl)


set_option maxHeartbeats 4000000 in
set_option maxRecDepth 100000 in
theorem ct_X5_putByte_13 {l : Launch} (hl : l.stackTraces = false) (D : va_G) (cA : Nat → ClassId) (ak : (Nat → Nat) × (Nat → Nat)) (h0 h1 h2 : Nat) : jj_M l D cA ak yX5_putByte (.code yX5_putByte cX5_putByte 2 none) 0 0 0 0 [(h0, .inr (6, [.ref h1, .int 12, .ref h2])), (h1, .inl (cA 0, 1300, .inl (upd (upd (upd (upd (upd (upd (upd (upd (upd (upd (upd (upd (fun _ => 0) 0 100) 1 97) 2 121) 3 32) 4 48) 5 32) 6 97) 7 115) 8 115) 9 101) 10 116) 11 115)))] [.ref h0, .int 32] (fun (w : va_W) (r : Option Value) => (w = [(h0, .inr (6, [.ref h1, .int 13, .ref h2])), (h1, .inl (cA 0, 1300, .inl (upd (upd (upd (upd (upd (upd (upd (upd (upd (upd (upd (upd (upd (fun _ => 0) 0 100) 1 97) 2 121) 3 32) 4 48) 5 32) 6 97) 7 115) 8 115) 9 101) 10 116) 11 115) 12 32)))] ∧ r = none)) jj_noX := by
  refine jj_start hl (by decide) jw_918 (jj_le rfl) ?_
  intro p e s m args below meth c A hargs hA C hex hmn
  refine jj_aload_n C dX5_putByte_0 rfl ?_
  refine jj_get C jk_6 1 (by decide) jw_173 0 rfl rfl dX5_putByte_1 ?_
  refine jj_sipush (v := 1300) C dX5_putByte_4 (by decide) ?_
  refine jj_icmp_geF (tgt := 30) C dX5_putByte_7 (by decide) (by decide) ?_
  refine jj_aload_n C dX5_putByte_10 rfl ?_
  refine jj_get C jk_6 0 (by decide) jw_172 0 rfl rfl dX5_putByte_11 ?_
  refine jj_aload_n C dX5_putByte_14 rfl ?_
  refine jj_get C jk_6 1 (by decide) jw_173 0 rfl rfl dX5_putByte_15 ?_
  refine jj_iload_n C dX5_putByte_18 rfl ?_
  refine jj_bast C 1 rfl (vp_in_iff.mpr (by decide)) (g := (upd (upd (upd (upd (upd (upd (upd (upd (upd (upd (upd (upd (upd (fun _ => 0) 0 100) 1 97) 2 121) 3 32) 4 48) 5 32) 6 97) 7 115) 8 115) 9 101) 10 116) 11 115) 12 32)) rfl rfl dX5_putByte_19 ?_
  refine jj_aload_n C dX5_putByte_20 rfl ?_
  refine jj_dup C dX5_putByte_21 rfl ?_
  refine jj_get C jk_6 1 (by decide) jw_173 0 rfl rfl dX5_putByte_22 ?_
  refine jj_iconst (v := 1) C dX5_putByte_25 (by decide) ?_
  refine jj_iadd (v := 13) C dX5_putByte_26 (by decide) ?_
  refine jj_put C jk_6 1 (by decide) jw_173 rfl 0 rfl rfl rfl rfl rfl dX5_putByte_27 ?_
  exact jj_vret C ⟨rfl, rfl⟩ dX5_putByte_30 (jj_le rfl) (jj_le rfl)


set_option maxHeartbeats 4000000 in
set_option maxRecDepth 100000 in
theorem ct_X5_putText_2 {l : Launch} (hl : l.stackTraces = false) (D : va_G) (cA : Nat → ClassId) (ak : (Nat → Nat) × (Nat → Nat)) (h0 h1 h2 : Nat) : jj_M l D cA ak yX5_putText (.code yX5_putText cX5_putText 3 none) 4 85 0 0 [(h0, .inr (6, [.ref h1, .int 5, .ref h2])), (h1, .inl (cA 0, 1300, .inl (upd (upd (upd (upd (upd (fun _ => 0) 0 100) 1 97) 2 121) 3 32) 4 48)))] [.ref h0, .ref (ak.1 15)] (fun (w : va_W) (r : Option Value) => (w = [(h0, .inr (6, [.ref h1, .int 13, .ref h2])), (h1, .inl (cA 0, 1300, .inl (upd (upd (upd (upd (upd (upd (upd (upd (upd (upd (upd (upd (upd (fun _ => 0) 0 100) 1 97) 2 121) 3 32) 4 48) 5 32) 6 97) 7 115) 8 115) 9 101) 10 116) 11 115) 12 32)))] ∧ r = none)) jj_noX := by
  refine jj_start hl (by decide) jw_923 (jj_le rfl) ?_
  intro p e s m args below meth c A hargs hA C hex hmn
  refine jj_iconst (v := 0) C dX5_putText_0 (by decide) ?_
  refine jj_istore_n C dX5_putText_1 (by decide) rfl ?_
  refine jj_iload_n C dX5_putText_2 rfl ?_
  refine jj_aload_n C dX5_putText_3 rfl ?_
  refine jq_callVs (rest := [.int 0]) C (ct_J0_length_8abf5_7 hl D cA ak) [] [0, 1] rfl rfl (by decide) (by decide) (by decide) 15 (by decide) rfl jw_892 jw_721 jw_722 jw_715 jw_719 jn_J0_length_8abf5 rfl (jj_le rfl) (jj_le rfl) (jj_le rfl) (jj_le rfl) (jj_le rfl) dX5_putText_4 rfl (fun _ _ hX => hX.elim) (fun w1 r O_2 => ?_)
  obtain ⟨rfl, rfl⟩ := O_2
  refine jj_apd rfl ?_
  refine jj_icmp_geF (tgt := 26) C dX5_putText_7 (by decide) (by decide) ?_
  refine jj_aload_n C dX5_putText_10 rfl ?_
  refine jj_aload_n C dX5_putText_11 rfl ?_
  refine jj_iload_n C dX5_putText_12 rfl ?_
  refine jq_callVs (rest := [.ref h0]) C (ct_J0_charAt_5068e_5 hl D cA ak) [] [0, 1] rfl rfl (by decide) (by decide) (by decide) 15 (by decide) rfl jw_914 jw_915 jw_916 jw_715 jw_913 jn_J0_charAt_5068e rfl (jj_le rfl) (jj_le rfl) (jj_le rfl) (jj_le rfl) (jj_le rfl) dX5_putText_13 rfl (fun _ _ hX => hX.elim) (fun w1 r O_4 => ?_)
  obtain ⟨rfl, rfl⟩ := O_4
  refine jj_apd rfl ?_
  refine jj_i2b (v := 32) C dX5_putText_16 (by decide) ?_
  refine jq_callV (rest := []) C (ct_X5_putByte_6 hl D cA ak h0 h1 h2) [0, 1] [] rfl rfl (by decide) (by decide) (by decide) 0 rfl rfl rfl jw_919 jw_920 jw_921 jw_169 jw_918 jn_X5_putByte rfl (jj_le rfl) (jj_le rfl) (jj_le rfl) (jj_le rfl) (jj_le rfl) dX5_putText_17 rfl (fun _ _ hX => hX.elim) (fun w1 r O_6 => ?_)
  obtain ⟨rfl, rfl⟩ := O_6
  refine jj_apd rfl ?_
  refine jj_iinc (v := 1) C dX5_putText_20 rfl (by decide) (by decide) rfl ?_
  refine jj_goto (tgt := 2) C dX5_putText_23 (by decide) ?_
  refine jj_iload_n C dX5_putText_2 rfl ?_
  refine jj_aload_n C dX5_putText_3 rfl ?_
  refine jq_callVs (rest := [.int 1]) C (ct_J0_length_8abf5_7 hl D cA ak) [] [0, 1] rfl rfl (by decide) (by decide) (by decide) 15 (by decide) rfl jw_892 jw_721 jw_722 jw_715 jw_719 jn_J0_length_8abf5 rfl (jj_le rfl) (jj_le rfl) (jj_le rfl) (jj_le rfl) (jj_le rfl) dX5_putText_4 rfl (fun _ _ hX => hX.elim) (fun w1 r O_8 => ?_)
  obtain ⟨rfl, rfl⟩ := O_8
  refine jj_apd rfl ?_
  refine jj_icmp_geF (tgt := 26) C dX5_putText_7 (by decide) (by decide) ?_
  refine jj_aload_n C dX5_putText_10 rfl ?_
  refine jj_aload_n C dX5_putText_11 rfl ?_
  refine jj_iload_n C dX5_putText_12 rfl ?_
  refine jq_callVs (rest := [.ref h0]) C (ct_J0_charAt_5068e_6 hl D cA ak) [] [0, 1] rfl rfl (by decide) (by decide) (by decide) 15 (by decide) rfl jw_914 jw_915 jw_916 jw_715 jw_913 jn_J0_charAt_5068e rfl (jj_le rfl) (jj_le rfl) (jj_le rfl) (jj_le rfl) (jj_le rfl) dX5_putText_13 rfl (fun _ _ hX => hX.elim) (fun w1 r O_10 => ?_)
  obtain ⟨rfl, rfl⟩ := O_10
  refine jj_apd rfl ?_
  refine jj_i2b (v := 97) C dX5_putText_16 (by decide) ?_
  refine jq_callV (rest := []) C (ct_X5_putByte_7 hl D cA ak h0 h1 h2) [0, 1] [] rfl rfl (by decide) (by decide) (by decide) 0 rfl rfl rfl jw_919 jw_920 jw_921 jw_169 jw_918 jn_X5_putByte rfl (jj_le rfl) (jj_le rfl) (jj_le rfl) (jj_le rfl) (jj_le rfl) dX5_putText_17 rfl (fun _ _ hX => hX.elim) (fun w1 r O_12 => ?_)
  obtain ⟨rfl, rfl⟩ := O_12
  refine jj_apd rfl ?_
  refine jj_iinc (v := 2) C dX5_putText_20 rfl (by decide) (by decide) rfl ?_
  refine jj_goto (tgt := 2) C dX5_putText_23 (by decide) ?_
  refine jj_iload_n C dX5_putText_2 rfl ?_
  refine jj_aload_n C dX5_putText_3 rfl ?_
  refine jq_callVs (rest := [.int 2]) C (ct_J0_length_8abf5_7 hl D cA ak) [] [0, 1] rfl rfl (by decide) (by decide) (by decide) 15 (by decide) rfl jw_892 jw_721 jw_722 jw_715 jw_719 jn_J0_length_8abf5 rfl (jj_le rfl) (jj_le rfl) (jj_le rfl) (jj_le rfl) (jj_le rfl) dX5_putText_4 rfl (fun _ _ hX => hX.elim) (fun w1 r O_14 => ?_)
  obtain ⟨rfl, rfl⟩ := O_14
  refine jj_apd rfl ?_
  refine jj_icmp_geF (tgt := 26) C dX5_putText_7 (by decide) (by decide) ?_
  refine jj_aload_n C dX5_putText_10 rfl ?_
  refine jj_aload_n C dX5_putText_11 rfl ?_
  refine jj_iload_n C dX5_putText_12 rfl ?_
  refine jq_callVs (rest := [.ref h0]) C (ct_J0_charAt_5068e_7 hl D cA ak) [] [0, 1] rfl rfl (by decide) (by decide) (by decide) 15 (by decide) rfl jw_914 jw_915 jw_916 jw_715 jw_913 jn_J0_charAt_5068e rfl (jj_le rfl) (jj_le rfl) (jj_le rfl) (jj_le rfl) (jj_le rfl) dX5_putText_13 rfl (fun _ _ hX => hX.elim) (fun w1 r O_16 => ?_)
  obtain ⟨rfl, rfl⟩ := O_16
  refine jj_apd rfl ?_
  refine jj_i2b (v := 115) C dX5_putText_16 (by decide) ?_
  refine jq_callV (rest := []) C (ct_X5_putByte_8 hl D cA ak h0 h1 h2) [0, 1] [] rfl rfl (by decide) (by decide) (by decide) 0 rfl rfl rfl jw_919 jw_920 jw_921 jw_169 jw_918 jn_X5_putByte rfl (jj_le rfl) (jj_le rfl) (jj_le rfl) (jj_le rfl) (jj_le rfl) dX5_putText_17 rfl (fun _ _ hX => hX.elim) (fun w1 r O_18 => ?_)
  obtain ⟨rfl, rfl⟩ := O_18
  refine jj_apd rfl ?_
  refine jj_iinc (v := 3) C dX5_putText_20 rfl (by decide) (by decide) rfl ?_
  refine jj_goto (tgt := 2) C dX5_putText_23 (by decide) ?_
  refine jj_iload_n C dX5_putText_2 rfl ?_
  refine jj_aload_n C dX5_putText_3 rfl ?_
  refine jq_callVs (rest := [.int 3]) C (ct_J0_length_8abf5_7 hl D cA ak) [] [0, 1] rfl rfl (by decide) (by decide) (by decide) 15 (by decide) rfl jw_892 jw_721 jw_722 jw_715 jw_719 jn_J0_length_8abf5 rfl (jj_le rfl) (jj_le rfl) (jj_le rfl) (jj_le rfl) (jj_le rfl) dX5_putText_4 rfl (fun _ _ hX => hX.elim) (fun w1 r O_20 => ?_)
  obtain ⟨rfl, rfl⟩ := O_20
  refine jj_apd rfl ?_
  refine jj_icmp_geF (tgt := 26) C dX5_putText_7 (by decide) (by decide) ?_
  refine jj_aload_n C dX5_putText_10 rfl ?_
  refine jj_aload_n C dX5_putText_11 rfl ?_
  refine jj_iload_n C dX5_putText_12 rfl ?_
  refine jq_callVs (rest := [.ref h0]) C (ct_J0_charAt_5068e_8 hl D cA ak) [] [0, 1] rfl rfl (by decide) (by decide) (by decide) 15 (by decide) rfl jw_914 jw_915 jw_916 jw_715 jw_913 jn_J0_charAt_5068e rfl (jj_le rfl) (jj_le rfl) (jj_le rfl) (jj_le rfl) (jj_le rfl) dX5_putText_13 rfl (fun _ _ hX => hX.elim) (fun w1 r O_22 => ?_)
  obtain ⟨rfl, rfl⟩ := O_22
  refine jj_apd rfl ?_
  refine jj_i2b (v := 115) C dX5_putText_16 (by decide) ?_
  refine jq_callV (rest := []) C (ct_X5_putByte_9 hl D cA ak h0 h1 h2) [0, 1] [] rfl rfl (by decide) (by decide) (by decide) 0 rfl rfl rfl jw_919 jw_920 jw_921 jw_169 jw_918 jn_X5_putByte rfl (jj_le rfl) (jj_le rfl) (jj_le rfl) (jj_le rfl) (jj_le rfl) dX5_putText_17 rfl (fun _ _ hX => hX.elim) (fun w1 r O_24 => ?_)
  obtain ⟨rfl, rfl⟩ := O_24
  refine jj_apd rfl ?_
  refine jj_iinc (v := 4) C dX5_putText_20 rfl (by decide) (by decide) rfl ?_
  refine jj_goto (tgt := 2) C dX5_putText_23 (by decide) ?_
  refine jj_iload_n C dX5_putText_2 rfl ?_
  refine jj_aload_n C dX5_putText_3 rfl ?_
  refine jq_callVs (rest := [.int 4]) C (ct_J0_length_8abf5_7 hl D cA ak) [] [0, 1] rfl rfl (by decide) (by decide) (by decide) 15 (by decide) rfl jw_892 jw_721 jw_722 jw_715 jw_719 jn_J0_length_8abf5 rfl (jj_le rfl) (jj_le rfl) (jj_le rfl) (jj_le rfl) (jj_le rfl) dX5_putText_4 rfl (fun _ _ hX => hX.elim) (fun w1 r O_26 => ?_)
  obtain ⟨rfl, rfl⟩ := O_26
  refine jj_apd rfl ?_
  refine jj_icmp_geF (tgt := 26) C dX5_putText_7 (by decide) (by decide) ?_
  refine jj_aload_n C dX5_putText_10 rfl ?_
  refine jj_aload_n C dX5_putText_11 rfl ?_
  refine jj_iload_n C dX5_putText_12 rfl ?_
  refine jq_callVs (rest := [.ref h0]) C (ct_J0_charAt_5068e_9 hl D cA ak) [] [0, 1] rfl rfl (by decide) (by decide) (by decide) 15 (by decide) rfl jw_914 jw_915 jw_916 jw_715 jw_913 jn_J0_charAt_5068e rfl (jj_le rfl) (jj_le rfl) (jj_le rfl) (jj_le rfl) (jj_le rfl) dX5_putText_13 rfl (fun _ _ hX => hX.elim) (fun w1 r O_28 => ?_)
  obtain ⟨rfl, rfl⟩ := O_28
  refine jj_apd rfl ?_
  refine jj_i2b (v := 101) C dX5_putText_16 (by decide) ?_
  refine jq_callV (rest := []) C (ct_X5_putByte_10 hl D cA ak h0 h1 h2) [0, 1] [] rfl rfl (by decide) (by decide) (by decide) 0 rfl rfl rfl jw_919 jw_920 jw_921 jw_169 jw_918 jn_X5_putByte rfl (jj_le rfl) (jj_le rfl) (jj_le rfl) (jj_le rfl) (jj_le rfl) dX5_putText_17 rfl (fun _ _ hX => hX.elim) (fun w1 r O_30 => ?_)
  obtain ⟨rfl, rfl⟩ := O_30
  refine jj_apd rfl ?_
  refine jj_iinc (v := 5) C dX5_putText_20 rfl (by decide) (by decide) rfl ?_
  refine jj_goto (tgt := 2) C dX5_putText_23 (by decide) ?_
  refine jj_iload_n C dX5_putText_2 rfl ?_
  refine jj_aload_n C dX5_putText_3 rfl ?_
  refine jq_callVs (rest := [.int 5]) C (ct_J0_length_8abf5_7 hl D cA ak) [] [0, 1] rfl rfl (by decide) (by decide) (by decide) 15 (by decide) rfl jw_892 jw_721 jw_722 jw_715 jw_719 jn_J0_length_8abf5 rfl (jj_le rfl) (jj_le rfl) (jj_le rfl) (jj_le rfl) (jj_le rfl) dX5_putText_4 rfl (fun _ _ hX => hX.elim) (fun w1 r O_32 => ?_)
  obtain ⟨rfl, rfl⟩ := O_32
  refine jj_apd rfl ?_
  refine jj_icmp_geF (tgt := 26) C dX5_putText_7 (by decide) (by decide) ?_
  refine jj_aload_n C dX5_putText_10 rfl ?_
  refine jj_aload_n C dX5_putText_11 rfl ?_
  refine jj_iload_n C dX5_putText_12 rfl ?_
  refine jq_callVs (rest := [.ref h0]) C (ct_J0_charAt_5068e_10 hl D cA ak) [] [0, 1] rfl rfl (by decide) (by decide) (by decide) 15 (by decide) rfl jw_914 jw_915 jw_916 jw_715 jw_913 jn_J0_charAt_5068e rfl (jj_le rfl) (jj_le rfl) (jj_le rfl) (jj_le rfl) (jj_le rfl) dX5_putText_13 rfl (fun _ _ hX => hX.elim) (fun w1 r O_34 => ?_)
  obtain ⟨rfl, rfl⟩ := O_34
  refine jj_apd rfl ?_
  refine jj_i2b (v := 116) C dX5_putText_16 (by decide) ?_
  refine jq_callV (rest := []) C (ct_X5_putByte_11 hl D cA ak h0 h1 h2) [0, 1] [] rfl rfl (by decide) (by decide) (by decide) 0 rfl rfl rfl jw_919 jw_920 jw_921 jw_169 jw_918 jn_X5_putByte rfl (jj_le rfl) (jj_le rfl) (jj_le rfl) (jj_le rfl) (jj_le rfl) dX5_putText_17 rfl (fun _ _ hX => hX.elim) (fun w1 r O_36 => ?_)
  obtain ⟨rfl, rfl⟩ := O_36
  refine jj_apd rfl ?_
  refine jj_iinc (v := 6) C dX5_putText_20 rfl (by decide) (by decide) rfl ?_
  refine jj_goto (tgt := 2) C dX5_putText_23 (by decide) ?_
  refine jj_iload_n C dX5_putText_2 rfl ?_
  refine jj_aload_n C dX5_putText_3 rfl ?_
  refine jq_callVs (rest := [.int 6]) C (ct_J0_length_8abf5_7 hl D cA ak) [] [0, 1] rfl rfl (by decide) (by decide) (by decide) 15 (by decide) rfl jw_892 jw_721 jw_722 jw_715 jw_719 jn_J0_length_8abf5 rfl (jj_le rfl) (jj_le rfl) (jj_le rfl) (jj_le rfl) (jj_le rfl) dX5_putText_4 rfl (fun _ _ hX => hX.elim) (fun w1 r O_38 => ?_)
  obtain ⟨rfl, rfl⟩ := O_38
  refine jj_apd rfl ?_
  refine jj_icmp_geF (tgt := 26) C dX5_putText_7 (by decide) (by decide) ?_
  refine jj_aload_n C dX5_putText_10 rfl ?_
  refine jj_aload_n C dX5_putText_11 rfl ?_
  refine jj_iload_n C dX5_putText_12 rfl ?_
  refine jq_callVs (rest := [.ref h0]) C (ct_J0_charAt_5068e_11 hl D cA ak) [] [0, 1] rfl rfl (by decide) (by decide) (by decide) 15 (by decide) rfl jw_914 jw_915 jw_916 jw_715 jw_913 jn_J0_charAt_5068e rfl (jj_le rfl) (jj_le rfl) (jj_le rfl) (jj_le rfl) (jj_le rfl) dX5_putText_13 rfl (fun _ _ hX => hX.elim) (fun w1 r O_40 => ?_)
  obtain ⟨rfl, rfl⟩ := O_40
  refine jj_apd rfl ?_
  refine jj_i2b (v := 115) C dX5_putText_16 (by decide) ?_
  refine jq_callV (rest := []) C (ct_X5_putByte_12 hl D cA ak h0 h1 h2) [0, 1] [] rfl rfl (by decide) (by decide) (by decide) 0 rfl rfl rfl jw_919 jw_920 jw_921 jw_169 jw_918 jn_X5_putByte rfl (jj_le rfl) (jj_le rfl) (jj_le rfl) (jj_le rfl) (jj_le rfl) dX5_putText_17 rfl (fun _ _ hX => hX.elim) (fun w1 r O_42 => ?_)
  obtain ⟨rfl, rfl⟩ := O_42
  refine jj_apd rfl ?_
  refine jj_iinc (v := 7) C dX5_putText_20 rfl (by decide) (by decide) rfl ?_
  refine jj_goto (tgt := 2) C dX5_putText_23 (by decide) ?_
  refine jj_iload_n C dX5_putText_2 rfl ?_
  refine jj_aload_n C dX5_putText_3 rfl ?_
  refine jq_callVs (rest := [.int 7]) C (ct_J0_length_8abf5_7 hl D cA ak) [] [0, 1] rfl rfl (by decide) (by decide) (by decide) 15 (by decide) rfl jw_892 jw_721 jw_722 jw_715 jw_719 jn_J0_length_8abf5 rfl (jj_le rfl) (jj_le rfl) (jj_le rfl) (jj_le rfl) (jj_le rfl) dX5_putText_4 rfl (fun _ _ hX => hX.elim) (fun w1 r O_44 => ?_)
  obtain ⟨rfl, rfl⟩ := O_44
  refine jj_apd rfl ?_
  refine jj_icmp_geF (tgt := 26) C dX5_putText_7 (by decide) (by decide) ?_
  refine jj_aload_n C dX5_putText_10 rfl ?_
  refine jj_aload_n C dX5_putText_11 rfl ?_
  refine jj_iload_n C dX5_putText_12 rfl ?_
  refine jq_callVs (rest := [.ref h0]) C (ct_J0_charAt_5068e_12 hl D cA ak) [] [0, 1] rfl rfl (by decide) (by decide) (by decide) 15 (by decide) rfl jw_914 jw_915 jw_916 jw_715 jw_913 jn_J0_charAt_5068e rfl (jj_le rfl) (jj_le rfl) (jj_le rfl) (jj_le rfl) (jj_le rfl) dX5_putText_13 rfl (fun _ _ hX => hX.elim) (fun w1 r O_46 => ?_)
  obtain ⟨rfl, rfl⟩ := O_46
  refine jj_apd rfl ?_
  refine jj_i2b (v := 32) C dX5_putText_16 (by decide) ?_
  refine jq_callV (rest := []) C (ct_X5_putByte_13 hl D cA ak h0 h1 h2) [0, 1] [] rfl rfl (by decide) (by decide) (by decide) 0 rfl rfl rfl jw_919 jw_920 jw_921 jw_169 jw_918 jn_X5_putByte rfl (jj_le rfl) (jj_le rfl) (jj_le rfl) (jj_le rfl) (jj_le rfl) dX5_putText_17 rfl (fun _ _ hX => hX.elim) (fun w1 r O_48 => ?_)
  obtain ⟨rfl, rfl⟩ := O_48
  refine jj_apd rfl ?_
  refine jj_iinc (v := 8) C dX5_putText_20 rfl (by decide) (by decide) rfl ?_
  refine jj_goto (tgt := 2) C dX5_putText_23 (by decide) ?_
  refine jj_iload_n C dX5_putText_2 rfl ?_
  refine jj_aload_n C dX5_putText_3 rfl ?_
  refine jq_callVs (rest := [.int 8]) C (ct_J0_length_8abf5_7 hl D cA ak) [] [0, 1] rfl rfl (by decide) (by decide) (by decide) 15 (by decide) rfl jw_892 jw_721 jw_722 jw_715 jw_719 jn_J0_length_8abf5 rfl (jj_le rfl) (jj_le rfl) (jj_le rfl) (jj_le rfl) (jj_le rfl) dX5_putText_4 rfl (fun _ _ hX => hX.elim) (fun w1 r O_50 => ?_)
  obtain ⟨rfl, rfl⟩ := O_50
  refine jj_apd rfl ?_
  refine jj_icmp_geT (tgt := 26) C dX5_putText_7 (by decide) (by decide) ?_
  exact jj_vret C ⟨rfl, rfl⟩ dX5_putText_26 (jj_le rfl) (jj_le rfl)


set_option maxHeartbeats 4000000 in
set_option maxRecDepth 100000 in
theorem ct_X5_putByte_14 {l : Launch} (hl : l.stackTraces = false) (D : va_G) (cA : Nat → ClassId) (ak : (Nat → Nat) × (Nat → Nat)) (h0 h1 h2 : Nat) : jj_M l D cA ak yX5_putByte (.code yX5_putByte cX5_putByte 2 none) 0 0 0 0 [(h0, .inr (6, [.ref h1, .int 13, .ref h2])), (h1, .inl (cA 0, 1300, .inl (upd (upd (upd (upd (upd (upd (upd (upd (upd (upd (upd (upd (upd (fun _ => 0) 0 100) 1 97) 2 121) 3 32) 4 48) 5 32) 6 97) 7 115) 8 115) 9 101) 10 116) 11 115) 12 32)))] [.ref h0, .int 48] (fun (w : va_W) (r : Option Value) => (w = [(h0, .inr (6, [.ref h1, .int 14, .ref h2])), (h1, .inl (cA 0, 1300, .inl (upd (upd (upd (upd (upd (upd (upd (upd (upd (upd (upd (upd (upd (upd (fun _ => 0) 0 100) 1 97) 2 121) 3 32) 4 48) 5 32) 6 97) 7 115) 8 115) 9 101) 10 116) 11 115) 12 32) 13 48)))] ∧ r = none)) jj_noX := by
  refine jj_start hl (by decide) jw_918 (jj_le rfl) ?_
  intro p e s m args below meth c A hargs hA C hex hmn
  refine jj_aload_n C dX5_putByte_0 rfl ?_
  refine jj_get C jk_6 1 (by decide) jw_173 0 rfl rfl dX5_putByte_1 ?_
  refine jj_sipush (v := 1300) C dX5_putByte_4 (by decide) ?_
  refine jj_icmp_geF (tgt := 30) C dX5_putByte_7 (by decide) (by decide) ?_
  refine jj_aload_n C dX5_putByte_10 rfl ?_
  refine jj_get C jk_6 0 (by decide) jw_172 0 rfl rfl dX5_putByte_11 ?_
  refine jj_aload_n C dX5_putByte_14 rfl ?_
  refine jj_get C jk_6 1 (by decide) jw_173 0 rfl rfl dX5_putByte_15 ?_
  refine jj_iload_n C dX5_putByte_18 rfl ?_
  refine jj_bast C 1 rfl (vp_in_iff.mpr (by decide)) (g := (upd (upd (upd (upd (upd (upd (upd (upd (upd (upd (upd (upd (upd (upd (fun _ => 0) 0 100) 1 97) 2 121) 3 32) 4 48) 5 32) 6 97) 7 115) 8 115) 9 101) 10 116) 11 115) 12 32) 13 48)) rfl rfl dX5_putByte_19 ?_
  refine jj_aload_n C dX5_putByte_20 rfl ?_
  refine jj_dup C dX5_putByte_21 rfl ?_
  refine jj_get C jk_6 1 (by decide) jw_173 0 rfl rfl dX5_putByte_22 ?_
  refine jj_iconst (v := 1) C dX5_putByte_25 (by decide) ?_
  refine jj_iadd (v := 14) C dX5_putByte_26 (by decide) ?_
  refine jj_put C jk_6 1 (by decide) jw_173 rfl 0 rfl rfl rfl rfl rfl dX5_putByte_27 ?_
  exact jj_vret C ⟨rfl, rfl⟩ dX5_putByte_30 (jj_le rfl) (jj_le rfl)


set_option maxHeartbeats 4000000 in
set_option maxRecDepth 100000 in
theorem ct_X5_putNumber_2 {l : Launch} (hl : l.stackTraces = false) (D : va_G) (cA : Nat → ClassId) (ak : (Nat → Nat) × (Nat → Nat)) (h0 h1 h2 : Nat) : jj_M l D cA ak yX5_putNumber (.code yX5_putNumber cX5_putNumber 7 none) 1 21 0 0 [(h0, .inr (6, [.ref h1, .int 13, .ref h2])), (h1, .inl (cA 0, 1300, .inl (upd (upd (upd (upd (upd (upd (upd (upd (upd (upd (upd (upd (upd (fun _ => 0) 0 100) 1 97) 2 121) 3 32) 4 48) 5 32) 6 97) 7 115) 8 115) 9 101) 10 116) 11 115) 12 32))), (h2, .inl (cA 0, 20, .inl (upd (fun _ => 0) 19 48)))] [.ref h0, .long 0] (fun (w : va_W) (r : Option Value) => (w = [(h2, .inl (cA 0, 20, .inl (upd (upd (fun _ => 0) 19 48) 19 48))), (h0, .inr (6, [.ref h1, .int 14, .ref h2])), (h1, .inl (cA 0, 1300, .inl (upd (upd (upd (upd (upd (upd (upd (upd (upd (upd (upd (upd (upd (upd (fun _ => 0) 0 100) 1 97) 2 121) 3 32) 4 48) 5 32) 6 97) 7 115) 8 115) 9 101) 10 116) 11 115) 12 32) 13 48)))] ∧ r = none)) jj_noX := by
  refine jj_start hl (by decide) jw_935 (jj_le rfl) ?_
  intro p e s m args below meth c A hargs hA C hex hmn
  refine jj_lload_n C dX5_putNumber_0 rfl ?_
  refine jj_lconst (v := 0) C dX5_putNumber_1 (by decide) ?_
  refine jj_lcmp_geT (tgt := 12) C dX5_putNumber_2 dX5_putNumber_3 (by decide) (by decide) ?_
  refine jj_lload_n C dX5_putNumber_12 rfl ?_
  refine jj_lstore_n C dX5_putNumber_13 (by decide) rfl ?_
  refine jj_bipush (v := 20) C dX5_putNumber_14 (by decide) ?_
  refine jj_istore C dX5_putNumber_16 (by decide) rfl ?_
  refine jj_iinc (v := 19) C dX5_putNumber_18 rfl (by decide) (by decide) rfl ?_
  refine jj_aload_n C dX5_putNumber_21 rfl ?_
  refine jj_get C jk_6 2 (by decide) jw_174 0 rfl rfl dX5_putNumber_22 ?_
  refine jj_iload C dX5_putNumber_25 rfl ?_
  refine jj_ldc2 (v := 48) C dX5_putNumber_27 jw_929 ?_
  refine jj_lload_n C dX5_putNumber_30 rfl ?_
  refine jj_ldc2 (v := 10) C dX5_putNumber_31 jw_930 ?_
  refine jj_lrem (v := 0) C dX5_putNumber_34 (by decide) (by decide) ?_
  refine jq_callS (rest := [.long 48, .int 19, .ref h2]) C (ct_J9_abs_067f4_1 hl D cA ak) [] [0, 1, 2] rfl rfl (by decide) (by decide) (by decide) jw_932 jw_933 jw_286 jw_931 jn_J9_abs_067f4 rfl (jj_le rfl) (jj_le rfl) (jj_le rfl) (jj_le rfl) (jj_le rfl) dX5_putNumber_35 rfl (fun _ _ hX => hX.elim) (fun w1 r O_2 => ?_)
  obtain ⟨rfl, rfl⟩ := O_2
  refine jj_apd rfl ?_
  refine jj_ladd (v := 48) C dX5_putNumber_38 (by decide) ?_
  refine jj_l2i (v := 48) C dX5_putNumber_39 (by decide) ?_
  refine jj_i2b (v := 48) C dX5_putNumber_40 (by decide) ?_
  refine jj_bast C 2 rfl (vp_in_iff.mpr (by decide)) (g := (upd (upd (fun _ => 0) 19 48) 19 48)) rfl rfl dX5_putNumber_41 ?_
  refine jj_lload_n C dX5_putNumber_42 rfl ?_
  refine jj_ldc2 (v := 10) C dX5_putNumber_43 jw_930 ?_
  refine jj_ldiv (v := 0) C dX5_putNumber_46 (by decide) (by decide) ?_
  refine jj_lstore_n C dX5_putNumber_47 (by decide) rfl ?_
  refine jj_lload_n C dX5_putNumber_48 rfl ?_
  refine jj_lconst (v := 0) C dX5_putNumber_49 (by decide) ?_
  refine jj_lcmp_eqT (tgt := 59) C dX5_putNumber_50 dX5_putNumber_51 (by decide) (by decide) ?_
  refine jj_iload C dX5_putNumber_59 rfl ?_
  refine jj_istore C dX5_putNumber_61 (by decide) rfl ?_
  refine jj_iload C dX5_putNumber_63 rfl ?_
  refine jj_bipush (v := 20) C dX5_putNumber_65 (by decide) ?_
  refine jj_icmp_geF (tgt := 87) C dX5_putNumber_67 (by decide) (by decide) ?_
  refine jj_aload_n C dX5_putNumber_70 rfl ?_
  refine jj_aload_n C dX5_putNumber_71 rfl ?_
  refine jj_get C jk_6 2 (by decide) jw_174 0 rfl rfl dX5_putNumber_72 ?_
  refine jj_iload C dX5_putNumber_75 rfl ?_
  refine jj_bald (v := 48) C 2 rfl (vp_in_iff.mpr (by decide)) rfl dX5_putNumber_77 ?_
  refine jq_callV (rest := []) C (ct_X5_putByte_14 hl D cA ak h0 h1 h2) [0, 1] [2] rfl rfl (by decide) (by decide) (by decide) 0 rfl rfl rfl jw_919 jw_920 jw_921 jw_169 jw_918 jn_X5_putByte rfl (jj_le rfl) (jj_le rfl) (jj_le rfl) (jj_le rfl) (jj_le rfl) dX5_putNumber_78 rfl (fun _ _ hX => hX.elim) (fun w1 r O_4 => ?_)
  obtain ⟨rfl, rfl⟩ := O_4
  refine jj_apd rfl ?_
  refine jj_iinc (v := 20) C dX5_putNumber_81 rfl (by decide) (by decide) rfl ?_
  refine jj_goto (tgt := 63) C dX5_putNumber_84 (by decide) ?_
  refine jj_iload C dX5_putNumber_63 rfl ?_
  refine jj_bipush (v := 20) C dX5_putNumber_65 (by decide) ?_
  refine jj_icmp_geT (tgt := 87) C dX5_putNumber_67 (by decide) (by decide) ?_
  exact jj_vret C ⟨rfl, rfl⟩ dX5_putNumber_87 (jj_le rfl) (jj_le rfl)


set_option maxHeartbeats 4000000 in
set_option maxRecDepth 100000 in
theorem ct_J0_coder_7d493_8 {l : Launch} (hl : l.stackTraces = false) (D : va_G) (cA : Nat → ClassId) (ak : (Nat → Nat) × (Nat → Nat)) : jj_M l D cA ak yJ0_coder_7d493 (.code yJ0_coder_7d493 cJ0_coder_7d493 1 (some .byte)) 0 0 0 0 [] [.ref (ak.1 16)] (fun (w : va_W) (r : Option Value) => (w = [] ∧ r = some (.int 0))) jj_noX := by
  refine jj_start hl (by decide) jw_713 (jj_le rfl) ?_
  intro p e s m args below meth c A hargs hA C hex hmn
  refine jj_gcs C jw_711 dJ0_coder_7d493_0 ?_
  refine jj_if_eqF (tgt := 13) C dJ0_coder_7d493_3 (by decide) (by decide) ?_
  refine jj_aload_n C dJ0_coder_7d493_6 rfl ?_
  refine jj_scod (k := 16) C (by decide) jw_712 dJ0_coder_7d493_7 ?_
  refine jj_goto (tgt := 14) C dJ0_coder_7d493_10 (by decide) ?_
  exact jj_zret C rfl ⟨rfl, rfl⟩ dJ0_coder_7d493_14 (jj_le rfl) (jj_le rfl)


set_option maxHeartbeats 4000000 in
set_option maxRecDepth 100000 in
theorem ct_J0_length_8abf5_8 {l : Launch} (hl : l.stackTraces = false) (D : va_G) (cA : Nat → ClassId) (ak : (Nat → Nat) × (Nat → Nat)) : jj_M l D cA ak yJ0_length_8abf5 (.code yJ0_length_8abf5 cJ0_length_8abf5 1 (some .int)) 1 20 0 0 [] [.ref (ak.1 16)] (fun (w : va_W) (r : Option Value) => (w = [] ∧ r = some (.int 1))) jj_noX := by
  refine jj_start hl (by decide) jw_719 (jj_le rfl) ?_
  intro p e s m args below meth c A hargs hA C hex hmn
  refine jj_aload_n C dJ0_length_8abf5_0 rfl ?_
  refine jj_sval (k := 16) C (by decide) jw_710 dJ0_length_8abf5_1 ?_
  refine jj_slen (k := 16) (v := 1) C (by decide) (by decide) dJ0_length_8abf5_4 ?_
  refine jj_aload_n C dJ0_length_8abf5_5 rfl ?_
  refine jq_callVs (rest := [.int 1]) C (ct_J0_coder_7d493_8 hl D cA ak) [] [] rfl rfl (by decide) (by decide) (by decide) 16 (by decide) rfl jw_714 jw_716 jw_717 jw_715 jw_713 jn_J0_coder_7d493 rfl (jj_le rfl) (jj_le rfl) (jj_le rfl) (jj_le rfl) (jj_le rfl) dJ0_length_8abf5_6 rfl (fun _ _ hX => hX.elim) (fun w1 r O_2 => ?_)
  obtain ⟨rfl, rfl⟩ := O_2
  refine jj_apd rfl ?_
  refine jj_ishr (v := 1) C dJ0_length_8abf5_9 (by decide) ?_
  exact jj_iret C ⟨rfl, rfl⟩ dJ0_length_8abf5_10 (jj_le rfl) (jj_le rfl)


set_option maxHeartbeats 4000000 in
set_option maxRecDepth 100000 in
theorem ct_J0_isLatin1_aae02_3 {l : Launch} (hl : l.stackTraces = false) (D : va_G) (cA : Nat → ClassId) (ak : (Nat → Nat) × (Nat → Nat)) : jj_M l D cA ak yJ0_isLatin1_aae02 (.code yJ0_isLatin1_aae02 cJ0_isLatin1_aae02 1 (some .boolean)) 0 0 0 0 [] [.ref (ak.1 16)] (fun (w : va_W) (r : Option Value) => (w = [] ∧ r = some (.int 1))) jj_noX := by
  refine jj_start hl (by decide) jw_893 (jj_le rfl) ?_
  intro p e s m args below meth c A hargs hA C hex hmn
  refine jj_gcs C jw_711 dJ0_isLatin1_aae02_0 ?_
  refine jj_if_eqF (tgt := 17) C dJ0_isLatin1_aae02_3 (by decide) (by decide) ?_
  refine jj_aload_n C dJ0_isLatin1_aae02_6 rfl ?_
  refine jj_scod (k := 16) C (by decide) jw_712 dJ0_isLatin1_aae02_7 ?_
  refine jj_if_neF (tgt := 17) C dJ0_isLatin1_aae02_10 (by decide) (by decide) ?_
  refine jj_iconst (v := 1) C dJ0_isLatin1_aae02_13 (by decide) ?_
  refine jj_goto (tgt := 18) C dJ0_isLatin1_aae02_14 (by decide) ?_
  exact jj_zret C rfl ⟨rfl, rfl⟩ dJ0_isLatin1_aae02_18 (jj_le rfl) (jj_le rfl)


set_option maxHeartbeats 4000000 in
set_option maxRecDepth 100000 in
theorem ct_J3_checkIndex_8e157_25 {l : Launch} (hl : l.stackTraces = false) (D : va_G) (cA : Nat → ClassId) (ak : (Nat → Nat) × (Nat → Nat)) (h0 : Nat) : jj_M l D cA ak yJ3_checkIndex_8e157 (.code yJ3_checkIndex_8e157 cJ3_checkIndex_8e157 3 (some .int)) 0 0 0 0 [] [.int 0, .int 1, .ref h0] (fun (w : va_W) (r : Option Value) => (w = [] ∧ r = some (.int 0))) jj_noX := by
  refine jj_start hl (by decide) jw_899 (jj_le rfl) ?_
  intro p e s m args below meth c A hargs hA C hex hmn
  refine jj_iload_n C dJ3_checkIndex_8e157_0 rfl ?_
  refine jj_if_ltF (tgt := 9) C dJ3_checkIndex_8e157_1 (by decide) (by decide) ?_
  refine jj_iload_n C dJ3_checkIndex_8e157_4 rfl ?_
  refine jj_iload_n C dJ3_checkIndex_8e157_5 rfl ?_
  refine jj_icmp_ltT (tgt := 16) C dJ3_checkIndex_8e157_6 (by decide) (by decide) ?_
  refine jj_iload_n C dJ3_checkIndex_8e157_16 rfl ?_
  exact jj_iret C ⟨rfl, rfl⟩ dJ3_checkIndex_8e157_17 (jj_le rfl) (jj_le rfl)


set_option maxHeartbeats 4000000 in
set_option maxRecDepth 100000 in
theorem ct_J3_checkIndex_8e157_26 {l : Launch} (hl : l.stackTraces = false) (D : va_G) (cA : Nat → ClassId) (ak : (Nat → Nat) × (Nat → Nat)) : jj_M l D cA ak yJ3_checkIndex_8e157 (.code yJ3_checkIndex_8e157 cJ3_checkIndex_8e157 3 (some .int)) 0 0 0 0 [] [.int 0, .int 1, .null] (fun (w : va_W) (r : Option Value) => (w = [] ∧ r = some (.int 0))) jj_noX := by
  refine jj_start hl (by decide) jw_899 (jj_le rfl) ?_
  intro p e s m args below meth c A hargs hA C hex hmn
  refine jj_iload_n C dJ3_checkIndex_8e157_0 rfl ?_
  refine jj_if_ltF (tgt := 9) C dJ3_checkIndex_8e157_1 (by decide) (by decide) ?_
  refine jj_iload_n C dJ3_checkIndex_8e157_4 rfl ?_
  refine jj_iload_n C dJ3_checkIndex_8e157_5 rfl ?_
  refine jj_icmp_ltT (tgt := 16) C dJ3_checkIndex_8e157_6 (by decide) (by decide) ?_
  refine jj_iload_n C dJ3_checkIndex_8e157_16 rfl ?_
  exact jj_iret C ⟨rfl, rfl⟩ dJ3_checkIndex_8e157_17 (jj_le rfl) (jj_le rfl)


set_option maxHeartbeats 4000000 in
set_option maxRecDepth 100000 in
theorem ct_J0_checkIndex_df160_13 {l : Launch} (hl : l.stackTraces = false) (D : va_G) (cA : Nat → ClassId) (ak : (Nat → Nat) × (Nat → Nat)) : jj_M l D cA ak yJ0_checkIndex_df160 (.code yJ0_checkIndex_df160 cJ0_checkIndex_df160 2 none) 1 22 0 0 [] [.int 0, .int 1] (fun (w : va_W) (r : Option Value) => (w = [] ∧ r = none)) jj_noX := by
  refine jj_start hl (by decide) jw_904 (jj_le rfl) ?_
  intro p e s m args below meth c A hargs hA C hex hmn
  refine jj_iload_n C dJ0_checkIndex_df160_0 rfl ?_
  refine jj_iload_n C dJ0_checkIndex_df160_1 rfl ?_
  refine jj_gfm C jw_898 dJ0_checkIndex_df160_2 (fun t_1 => ?_) ?_
  · refine jq_callS (rest := []) C (ct_J3_checkIndex_8e157_25 hl D cA ak t_1) [] [] rfl rfl (by decide) (by decide) (by decide) jw_900 jw_902 jw_901 jw_899 jn_J3_checkIndex_8e157 rfl (jj_le rfl) (jj_le rfl) (jj_le rfl) (jj_le rfl) (jj_le rfl) dJ0_checkIndex_df160_5 rfl (fun _ _ hX => hX.elim) (fun w1 r O_3 => ?_)
    obtain ⟨rfl, rfl⟩ := O_3
    refine jj_apd rfl ?_
    refine jj_pop C dJ0_checkIndex_df160_8 rfl ?_
    exact jj_vret C ⟨rfl, rfl⟩ dJ0_checkIndex_df160_9 (jj_le rfl) (jj_le rfl)
  · refine jq_callS (rest := []) C (ct_J3_checkIndex_8e157_26 hl D cA ak) [] [] rfl rfl (by decide) (by decide) (by decide) jw_900 jw_902 jw_901 jw_899 jn_J3_checkIndex_8e157 rfl (jj_le rfl) (jj_le rfl) (jj_le rfl) (jj_le rfl) (jj_le rfl) dJ0_checkIndex_df160_5 rfl (fun _ _ hX => hX.elim) (fun w1 r O_5 => ?_)
    obtain ⟨rfl, rfl⟩ := O_5
    refine jj_apd rfl ?_
    refine jj_pop C dJ0_checkIndex_df160_8 rfl ?_
    exact jj_vret C ⟨rfl, rfl⟩ dJ0_checkIndex_df160_9 (jj_le rfl) (jj_le rfl)


set_option maxHeartbeats 4000000 in
set_option maxRecDepth 100000 in
theorem ct_J1_charAt_3b067_13 {l : Launch} (hl : l.stackTraces = false) (D : va_G) (cA : Nat → ClassId) (ak : (Nat → Nat) × (Nat → Nat)) : jj_M l D cA ak yJ1_charAt_3b067 (.code yJ1_charAt_3b067 cJ1_charAt_3b067 2 (some .char)) 2 43 0 0 [] [.ref (ak.2 16), .int 0] (fun (w : va_W) (r : Option Value) => (w = [] ∧ r = some (.int 10))) jj_noX := by
  refine jj_start hl (by decide) jw_908 (jj_le rfl) ?_
  intro p e s m args below meth c A hargs hA C hex hmn
  refine jj_iload_n C dJ1_charAt_3b067_0 rfl ?_
  refine jj_aload_n C dJ1_charAt_3b067_1 rfl ?_
  refine jj_slen (k := 16) (v := 1) C (by decide) (by decide) dJ1_charAt_3b067_2 ?_
  refine jq_callS (rest := []) C (ct_J0_checkIndex_df160_13 hl D cA ak) [] [] rfl rfl (by decide) (by decide) (by decide) jw_905 jw_906 jw_715 jw_904 jn_J0_checkIndex_df160 rfl (jj_le rfl) (jj_le rfl) (jj_le rfl) (jj_le rfl) (jj_le rfl) dJ1_charAt_3b067_3 rfl (fun _ _ hX => hX.elim) (fun w1 r O_2 => ?_)
  obtain ⟨rfl, rfl⟩ := O_2
  refine jj_apd rfl ?_
  refine jj_aload_n C dJ1_charAt_3b067_6 rfl ?_
  refine jj_iload_n C dJ1_charAt_3b067_7 rfl ?_
  refine jj_sbyt (k := 16) (v := 10) C (by decide) (vp_in_iff.mpr (by decide)) (by decide) dJ1_charAt_3b067_8 ?_
  refine jj_sipush (v := 255) C dJ1_charAt_3b067_9 (by decide) ?_
  refine jj_iand (v := 10) C dJ1_charAt_3b067_12 (by decide) ?_
  refine jj_i2c (v := 10) C dJ1_charAt_3b067_13 (by decide) ?_
  exact jj_zret C rfl ⟨rfl, rfl⟩ dJ1_charAt_3b067_14 (jj_le rfl) (jj_le rfl)


set_option maxHeartbeats 4000000 in
set_option maxRecDepth 100000 in
theorem ct_J0_charAt_5068e_13 {l : Launch} (hl : l.stackTraces = false) (D : va_G) (cA : Nat → ClassId) (ak : (Nat → Nat) × (Nat → Nat)) : jj_M l D cA ak yJ0_charAt_5068e (.code yJ0_charAt_5068e cJ0_charAt_5068e 2 (some .char)) 3 64 0 0 [] [.ref (ak.1 16), .int 0] (fun (w : va_W) (r : Option Value) => (w = [] ∧ r = some (.int 10))) jj_noX := by
  refine jj_start hl (by decide) jw_913 (jj_le rfl) ?_
  intro p e s m args below meth c A hargs hA C hex hmn
  refine jj_aload_n C dJ0_charAt_5068e_0 rfl ?_
  refine jq_callVs (rest := []) C (ct_J0_isLatin1_aae02_3 hl D cA ak) [] [] rfl rfl (by decide) (by decide) (by decide) 16 (by decide) rfl jw_894 jw_895 jw_896 jw_715 jw_893 jn_J0_isLatin1_aae02 rfl (jj_le rfl) (jj_le rfl) (jj_le rfl) (jj_le rfl) (jj_le rfl) dJ0_charAt_5068e_1 rfl (fun _ _ hX => hX.elim) (fun w1 r O_2 => ?_)
  obtain ⟨rfl, rfl⟩ := O_2
  refine jj_apd rfl ?_
  refine jj_if_eqF (tgt := 16) C dJ0_charAt_5068e_4 (by decide) (by decide) ?_
  refine jj_aload_n C dJ0_charAt_5068e_7 rfl ?_
  refine jj_sval (k := 16) C (by decide) jw_710 dJ0_charAt_5068e_8 ?_
  refine jj_iload_n C dJ0_charAt_5068e_11 rfl ?_
  refine jq_callS (rest := []) C (ct_J1_charAt_3b067_13 hl D cA ak) [] [] rfl rfl (by decide) (by decide) (by decide) jw_909 jw_911 jw_910 jw_908 jn_J1_charAt_3b067 rfl (jj_le rfl) (jj_le rfl) (jj_le rfl) (jj_le rfl) (jj_le rfl) dJ0_charAt_5068e_12 rfl (fun _ _ hX => hX.elim) (fun w1 r O_4 => ?_)
  obtain ⟨rfl, rfl⟩ := O_4
  refine jj_apd rfl ?_
  exact jj_zret C rfl ⟨rfl, rfl⟩ dJ0_charAt_5068e_15 (jj_le rfl) (jj_le rfl)


set_option maxHeartbeats 4000000 in
set_option maxRecDepth 100000 in
theorem ct_X5_putByte_15 {l : Launch} (hl : l.stackTraces = false) (D : va_G) (cA : Nat → ClassId) (ak : (Nat → Nat) × (Nat → Nat)) (h0 h1 h2 : Nat) : jj_M l D cA ak yX5_putByte (.code yX5_putByte cX5_putByte 2 none) 0 0 0 0 [(h0, .inr (6, [.ref h1, .int 14, .ref h2])), (h1, .inl (cA 0, 1300, .inl (upd (upd (upd (upd (upd (upd (upd (upd (upd (upd (upd (upd (upd (upd (fun _ => 0) 0 100) 1 97) 2 121) 3 32) 4 48) 5 32) 6 97) 7 115) 8 115) 9 101) 10 116) 11 115) 12 32) 13 48)))] [.ref h0, .int 10] (fun (w : va_W) (r : Option Value) => (w = [(h0, .inr (6, [.ref h1, .int 15, .ref h2])), (h1, .inl (cA 0, 1300, .inl (upd (upd (upd (upd (upd (upd (upd (upd (upd (upd (upd (upd (upd (upd (upd (fun _ => 0) 0 100) 1 97) 2 121) 3 32) 4 48) 5 32) 6 97) 7 115) 8 115) 9 101) 10 116) 11 115) 12 32) 13 48) 14 10)))] ∧ r = none)) jj_noX := by
  refine jj_start hl (by decide) jw_918 (jj_le rfl) ?_
  intro p e s m args below meth c A hargs hA C hex hmn
  refine jj_aload_n C dX5_putByte_0 rfl ?_
  refine jj_get C jk_6 1 (by decide) jw_173 0 rfl rfl dX5_putByte_1 ?_
  refine jj_sipush (v := 1300) C dX5_putByte_4 (by decide) ?_
  refine jj_icmp_geF (tgt := 30) C dX5_putByte_7 (by decide) (by decide) ?_
  refine jj_aload_n C dX5_putByte_10 rfl ?_
  refine jj_get C jk_6 0 (by decide) jw_172 0 rfl rfl dX5_putByte_11 ?_
  refine jj_aload_n C dX5_putByte_14 rfl ?_
  refine jj_get C jk_6 1 (by decide) jw_173 0 rfl rfl dX5_putByte_15 ?_
  refine jj_iload_n C dX5_putByte_18 rfl ?_
  refine jj_bast C 1 rfl (vp_in_iff.mpr (by decide)) (g := (upd (upd (upd (upd (upd (upd (upd (upd (upd (upd (upd (upd (upd (upd (upd (fun _ => 0) 0 100) 1 97) 2 121) 3 32) 4 48) 5 32) 6 97) 7 115) 8 115) 9 101) 10 116) 11 115) 12 32) 13 48) 14 10)) rfl rfl dX5_putByte_19 ?_
  refine jj_aload_n C dX5_putByte_20 rfl ?_
  refine jj_dup C dX5_putByte_21 rfl ?_
  refine jj_get C jk_6 1 (by decide) jw_173 0 rfl rfl dX5_putByte_22 ?_
  refine jj_iconst (v := 1) C dX5_putByte_25 (by decide) ?_
  refine jj_iadd (v := 15) C dX5_putByte_26 (by decide) ?_
  refine jj_put C jk_6 1 (by decide) jw_173 rfl 0 rfl rfl rfl rfl rfl dX5_putByte_27 ?_
  exact jj_vret C ⟨rfl, rfl⟩ dX5_putByte_30 (jj_le rfl) (jj_le rfl)


set_option maxHeartbeats 4000000 in
set_option maxRecDepth 100000 in
theorem ct_X5_putText_3 {l : Launch} (hl : l.stackTraces = false) (D : va_G) (cA : Nat → ClassId) (ak : (Nat → Nat) × (Nat → Nat)) (h0 h1 h2 : Nat) : jj_M l D cA ak yX5_putText (.code yX5_putText cX5_putText 3 none) 4 85 0 0 [(h0, .inr (6, [.ref h1, .int 14, .ref h2])), (h1, .inl (cA 0, 1300, .inl (upd (upd (upd (upd (upd (upd (upd (upd (upd (upd (upd (upd (upd (upd (fun _ => 0) 0 100) 1 97) 2 121) 3 32) 4 48) 5 32) 6 97) 7 115) 8 115) 9 101) 10 116) 11 115) 12 32) 13 48)))] [.ref h0, .ref (ak.1 16)] (fun (w : va_W) (r : Option Value) => (w = [(h0, .inr (6, [.ref h1, .int 15, .ref h2])), (h1, .inl (cA 0, 1300, .inl (upd (upd (upd (upd (upd (upd (upd (upd (upd (upd (upd (upd (upd (upd (upd (fun _ => 0) 0 100) 1 97) 2 121) 3 32) 4 48) 5 32) 6 97) 7 115) 8 115) 9 101) 10 116) 11 115) 12 32) 13 48) 14 10)))] ∧ r = none)) jj_noX := by
  refine jj_start hl (by decide) jw_923 (jj_le rfl) ?_
  intro p e s m args below meth c A hargs hA C hex hmn
  refine jj_iconst (v := 0) C dX5_putText_0 (by decide) ?_
  refine jj_istore_n C dX5_putText_1 (by decide) rfl ?_
  refine jj_iload_n C dX5_putText_2 rfl ?_
  refine jj_aload_n C dX5_putText_3 rfl ?_
  refine jq_callVs (rest := [.int 0]) C (ct_J0_length_8abf5_8 hl D cA ak) [] [0, 1] rfl rfl (by decide) (by decide) (by decide) 16 (by decide) rfl jw_892 jw_721 jw_722 jw_715 jw_719 jn_J0_length_8abf5 rfl (jj_le rfl) (jj_le rfl) (jj_le rfl) (jj_le rfl) (jj_le rfl) dX5_putText_4 rfl (fun _ _ hX => hX.elim) (fun w1 r O_2 => ?_)
  obtain ⟨rfl, rfl⟩ := O_2
  refine jj_apd rfl ?_
  refine jj_icmp_geF (tgt := 26) C dX5_putText_7 (by decide) (by decide) ?_
  refine jj_aload_n C dX5_putText_10 rfl ?_
  refine jj_aload_n C dX5_putText_11 rfl ?_
  refine jj_iload_n C dX5_putText_12 rfl ?_
  refine jq_callVs (rest := [.ref h0]) C (ct_J0_charAt_5068e_13 hl D cA ak) [] [0, 1] rfl rfl (by decide) (by decide) (by decide) 16 (by decide) rfl jw_914 jw_915 jw_916 jw_715 jw_913 jn_J0_charAt_5068e rfl (jj_le rfl) (jj_le rfl) (jj_le rfl) (jj_le rfl) (jj_le rfl) dX5_putText_13 rfl (fun _ _ hX => hX.elim) (fun w1 r O_4 => ?_)
  obtain ⟨rfl, rfl⟩ := O_4
  refine jj_apd rfl ?_
  refine jj_i2b (v := 10) C dX5_putText_16 (by decide) ?_
  refine jq_callV (rest := []) C (ct_X5_putByte_15 hl D cA ak h0 h1 h2) [0, 1] [] rfl rfl (by decide) (by decide) (by decide) 0 rfl rfl rfl jw_919 jw_920 jw_921 jw_169 jw_918 jn_X5_putByte rfl (jj_le rfl) (jj_le rfl) (jj_le rfl) (jj_le rfl) (jj_le rfl) dX5_putText_17 rfl (fun _ _ hX => hX.elim) (fun w1 r O_6 => ?_)
  obtain ⟨rfl, rfl⟩ := O_6
  refine jj_apd rfl ?_
  refine jj_iinc (v := 1) C dX5_putText_20 rfl (by decide) (by decide) rfl ?_
  refine jj_goto (tgt := 2) C dX5_putText_23 (by decide) ?_
  refine jj_iload_n C dX5_putText_2 rfl ?_
  refine jj_aload_n C dX5_putText_3 rfl ?_
  refine jq_callVs (rest := [.int 1]) C (ct_J0_length_8abf5_8 hl D cA ak) [] [0, 1] rfl rfl (by decide) (by decide) (by decide) 16 (by decide) rfl jw_892 jw_721 jw_722 jw_715 jw_719 jn_J0_length_8abf5 rfl (jj_le rfl) (jj_le rfl) (jj_le rfl) (jj_le rfl) (jj_le rfl) dX5_putText_4 rfl (fun _ _ hX => hX.elim) (fun w1 r O_8 => ?_)
  obtain ⟨rfl, rfl⟩ := O_8
  refine jj_apd rfl ?_
  refine jj_icmp_geT (tgt := 26) C dX5_putText_7 (by decide) (by decide) ?_
  exact jj_vret C ⟨rfl, rfl⟩ dX5_putText_26 (jj_le rfl) (jj_le rfl)


set_option maxHeartbeats 4000000 in
set_option maxRecDepth 100000 in
theorem ct_X5_write_1 {l : Launch} (hl : l.stackTraces = false) (D : va_G) (cA : Nat → ClassId) (ak : (Nat → Nat) × (Nat → Nat)) (h0 h1 h2 h3 h4 h5 h6 h7 : Nat) : jj_M l D cA ak yX5_write (.code yX5_write cX5_write 3 none) 5 107 0 0 [(h0, .inr (6, [.ref h2, .int 0, .ref h3])), (h1, .inr (2, [.int 1, .int 0, .int 0, .int 0, .int 100, .int 0, .int 0, .int 0, .int 0, .int 0, .ref h4, .ref h5, .ref h6, .ref h7])), (h2, .inl (cA 0, 1300, .inl (fun _ => 0))), (h3, .inl (cA 0, 20, .inl (fun _ => 0)))] [.ref h0, .ref h1] (fun (w : va_W) (r : Option Value) => (w = [(h1, .inr (2, [.int 1, .int 0, .int 0, .int 0, .int 100, .int 0, .int 0, .int 0, .int 0, .int 0, .ref h4, .ref h5, .ref h6, .ref h7])), (h3, .inl (cA 0, 20, .inl (upd (upd (fun _ => 0) 19 48) 19 48))), (h0, .inr (6, [.ref h2, .int 15, .ref h3])), (h2, .inl (cA 0, 1300, .inl (upd (upd (upd (upd (upd (upd (upd (upd (upd (upd (upd (upd (upd (upd (upd (fun _ => 0) 0 100) 1 97) 2 121) 3 32) 4 48) 5 32) 6 97) 7 115) 8 115) 9 101) 10 116) 11 115) 12 32) 13 48) 14 10)))] ∧ r = none)) jj_noX := by
  refine jj_start hl (by decide) jw_942 (jj_le rfl) ?_
  intro p e s m args below meth c A hargs hA C hex hmn
  refine jj_aload_n C dX5_write_0 rfl ?_
  refine jj_iconst (v := 0) C dX5_write_1 (by decide) ?_
  refine jj_put C jk_6 1 (by decide) jw_173 rfl 0 rfl rfl rfl rfl rfl dX5_write_2 ?_
  refine jj_aload_n C dX5_write_5 rfl ?_
  refine jj_ldcs (k := 13) (tx := "day ") C dX5_write_6 (by decide +kernel) ?_
  refine jq_callV (rest := []) C (ct_X5_putText_1 hl D cA ak h0 h2 h3) [0, 2] [1, 3] rfl rfl (by decide) (by decide) (by decide) 0 rfl rfl rfl jw_924 jw_925 jw_926 jw_169 jw_923 jn_X5_putText rfl (jj_le rfl) (jj_le rfl) (jj_le rfl) (jj_le rfl) (jj_le rfl) dX5_write_8 rfl (fun _ _ hX => hX.elim) (fun w1 r O_2 => ?_)
  obtain ⟨rfl, rfl⟩ := O_2
  refine jj_apd rfl ?_
  refine jj_aload_n C dX5_write_11 rfl ?_
  refine jj_aload_n C dX5_write_12 rfl ?_
  refine jj_get C jk_2 5 (by decide) jw_928 0 rfl rfl dX5_write_13 ?_
  refine jj_i2l (v := 0) C dX5_write_16 (by decide) ?_
  refine jq_callV (rest := []) C (ct_X5_putNumber_1 hl D cA ak h0 h2 h3) [2, 3, 1] [0] rfl rfl (by decide) (by decide) (by decide) 0 rfl rfl rfl jw_936 jw_937 jw_938 jw_169 jw_935 jn_X5_putNumber rfl (jj_le rfl) (jj_le rfl) (jj_le rfl) (jj_le rfl) (jj_le rfl) dX5_write_17 rfl (fun _ _ hX => hX.elim) (fun w1 r O_4 => ?_)
  obtain ⟨rfl, rfl⟩ := O_4
  refine jj_apd rfl ?_
  refine jj_aload_n C dX5_write_20 rfl ?_
  refine jj_ldcs (k := 15) (tx := " assets ") C dX5_write_21 (by decide +kernel) ?_
  refine jq_callV (rest := []) C (ct_X5_putText_2 hl D cA ak h0 h2 h3) [2, 3] [0, 1] rfl rfl (by decide) (by decide) (by decide) 0 rfl rfl rfl jw_924 jw_925 jw_926 jw_169 jw_923 jn_X5_putText rfl (jj_le rfl) (jj_le rfl) (jj_le rfl) (jj_le rfl) (jj_le rfl) dX5_write_23 rfl (fun _ _ hX => hX.elim) (fun w1 r O_6 => ?_)
  obtain ⟨rfl, rfl⟩ := O_6
  refine jj_apd rfl ?_
  refine jj_aload_n C dX5_write_26 rfl ?_
  refine jj_aload_n C dX5_write_27 rfl ?_
  refine jq_callV (rest := [.ref h0]) C (ct_X0_netOfAll_1 hl D cA ak h1 h4 h5 h6 h7) [0] [1, 2, 3] rfl rfl (by decide) (by decide) (by decide) 0 rfl rfl rfl jw_940 jw_611 jw_612 jw_57 jw_609 jn_X0_netOfAll rfl (jj_le rfl) (jj_le rfl) (jj_le rfl) (jj_le rfl) (jj_le rfl) dX5_write_28 rfl (fun _ _ hX => hX.elim) (fun w1 r O_8 => ?_)
  obtain ⟨rfl, rfl⟩ := O_8
  refine jj_apd rfl ?_
  refine jq_callV (rest := []) C (ct_X5_putNumber_2 hl D cA ak h0 h2 h3) [1, 2, 0] [3] rfl rfl (by decide) (by decide) (by decide) 0 rfl rfl rfl jw_936 jw_937 jw_938 jw_169 jw_935 jn_X5_putNumber rfl (jj_le rfl) (jj_le rfl) (jj_le rfl) (jj_le rfl) (jj_le rfl) dX5_write_31 rfl (fun _ _ hX => hX.elim) (fun w1 r O_10 => ?_)
  obtain ⟨rfl, rfl⟩ := O_10
  refine jj_apd rfl ?_
  refine jj_aload_n C dX5_write_34 rfl ?_
  refine jj_ldcs (k := 16) (tx := "\n") C dX5_write_35 (by decide +kernel) ?_
  refine jq_callV (rest := []) C (ct_X5_putText_3 hl D cA ak h0 h2 h3) [2, 3] [0, 1] rfl rfl (by decide) (by decide) (by decide) 0 rfl rfl rfl jw_924 jw_925 jw_926 jw_169 jw_923 jn_X5_putText rfl (jj_le rfl) (jj_le rfl) (jj_le rfl) (jj_le rfl) (jj_le rfl) dX5_write_37 rfl (fun _ _ hX => hX.elim) (fun w1 r O_12 => ?_)
  obtain ⟨rfl, rfl⟩ := O_12
  refine jj_apd rfl ?_
  refine jj_iconst (v := 0) C dX5_write_40 (by decide) ?_
  refine jj_istore_n C dX5_write_41 (by decide) rfl ?_
  refine jj_iload_n C dX5_write_42 rfl ?_
  refine jj_aload_n C dX5_write_43 rfl ?_
  refine jj_get C jk_2 7 (by decide) jw_941 0 rfl rfl dX5_write_44 ?_
  refine jj_icmp_geT (tgt := 67) C dX5_write_47 (by decide) (by decide) ?_
  exact jj_vret C ⟨rfl, rfl⟩ dX5_write_67 (jj_le rfl) (jj_le rfl)


set_option maxHeartbeats 4000000 in
set_option maxRecDepth 100000 in
theorem ct_X10_writeReport_1 {l : Launch} (hl : l.stackTraces = false) (D : va_G) (cA : Nat → ClassId) (ak : (Nat → Nat) × (Nat → Nat)) (h0 h1 h2 h3 h4 h5 h6 h7 h8 h9 h10 h11 h12 : Nat) : jj_M l D cA ak yX10_writeReport (.code yX10_writeReport cX10_writeReport 1 (some .int)) 6 129 0 0 [(h0, .inr (11, [.ref h5, .int 0, .int (-1), .ref h1, .ref h6, .ref h7, .ref h8, .int 0, .int 0, .ref h2])), (h1, .inr (2, [.int 1, .int 0, .int 0, .int 0, .int 100, .int 0, .int 0, .int 0, .int 0, .int 0, .ref h9, .ref h10, .ref h11, .ref h12])), (h2, .inr (6, [.ref h3, .int 0, .ref h4])), (h3, .inl (cA 0, 1300, .inl (fun _ => 0))), (h4, .inl (cA 0, 20, .inl (fun _ => 0)))] [.ref h0] (fun (w : va_W) (r : Option Value) => (r = some (.int 15))) jj_noX := by
  refine jj_start hl (by decide) jw_947 (jj_le rfl) ?_
  intro p e s m args below meth c A hargs hA C hex hmn
  refine jj_aload_n C dX10_writeReport_0 rfl ?_
  refine jj_get C jk_11 9 (by decide) jw_178 0 rfl rfl dX10_writeReport_1 ?_
  refine jj_aload_n C dX10_writeReport_4 rfl ?_
  refine jj_get C jk_11 3 (by decide) jw_135 0 rfl rfl dX10_writeReport_5 ?_
  refine jq_callV (rest := []) C (ct_X5_write_1 hl D cA ak h2 h1 h3 h4 h9 h10 h11 h12) [2, 1, 3, 4] [0] rfl rfl (by decide) (by decide) (by decide) 0 rfl rfl rfl jw_943 jw_944 jw_945 jw_169 jw_942 jn_X5_write rfl (jj_le rfl) (jj_le rfl) (jj_le rfl) (jj_le rfl) (jj_le rfl) dX10_writeReport_8 rfl (fun _ _ hX => hX.elim) (fun w1 r O_2 => ?_)
  obtain ⟨rfl, rfl⟩ := O_2
  refine jj_apd rfl ?_
  refine jj_aload_n C dX10_writeReport_11 rfl ?_
  refine jj_get C jk_11 9 (by decide) jw_178 0 rfl rfl dX10_writeReport_12 ?_
  refine jj_get C jk_6 1 (by decide) jw_623 3 rfl rfl dX10_writeReport_15 ?_
  exact jj_iret C rfl dX10_writeReport_18 (jj_le rfl) (jj_le rfl)


set_option maxHeartbeats 4000000 in
set_option maxRecDepth 100000 in
theorem ct_J0_coder_7d493_9 {l : Launch} (hl : l.stackTraces = false) (D : va_G) (cA : Nat → ClassId) (ak : (Nat → Nat) × (Nat → Nat)) : jj_M l D cA ak yJ0_coder_7d493 (.code yJ0_coder_7d493 cJ0_coder_7d493 1 (some .byte)) 0 0 0 0 [] [.ref (ak.1 33)] (fun (w : va_W) (r : Option Value) => (w = [] ∧ r = some (.int 0))) jj_noX := by
  refine jj_start hl (by decide) jw_713 (jj_le rfl) ?_
  intro p e s m args below meth c A hargs hA C hex hmn
  refine jj_gcs C jw_711 dJ0_coder_7d493_0 ?_
  refine jj_if_eqF (tgt := 13) C dJ0_coder_7d493_3 (by decide) (by decide) ?_
  refine jj_aload_n C dJ0_coder_7d493_6 rfl ?_
  refine jj_scod (k := 33) C (by decide) jw_712 dJ0_coder_7d493_7 ?_
  refine jj_goto (tgt := 14) C dJ0_coder_7d493_10 (by decide) ?_
  exact jj_zret C rfl ⟨rfl, rfl⟩ dJ0_coder_7d493_14 (jj_le rfl) (jj_le rfl)


set_option maxHeartbeats 4000000 in
set_option maxRecDepth 100000 in
theorem ct_J0_length_8abf5_9 {l : Launch} (hl : l.stackTraces = false) (D : va_G) (cA : Nat → ClassId) (ak : (Nat → Nat) × (Nat → Nat)) : jj_M l D cA ak yJ0_length_8abf5 (.code yJ0_length_8abf5 cJ0_length_8abf5 1 (some .int)) 1 20 0 0 [] [.ref (ak.1 33)] (fun (w : va_W) (r : Option Value) => (w = [] ∧ r = some (.int 4))) jj_noX := by
  refine jj_start hl (by decide) jw_719 (jj_le rfl) ?_
  intro p e s m args below meth c A hargs hA C hex hmn
  refine jj_aload_n C dJ0_length_8abf5_0 rfl ?_
  refine jj_sval (k := 33) C (by decide) jw_710 dJ0_length_8abf5_1 ?_
  refine jj_slen (k := 33) (v := 4) C (by decide) (by decide) dJ0_length_8abf5_4 ?_
  refine jj_aload_n C dJ0_length_8abf5_5 rfl ?_
  refine jq_callVs (rest := [.int 4]) C (ct_J0_coder_7d493_9 hl D cA ak) [] [] rfl rfl (by decide) (by decide) (by decide) 33 (by decide) rfl jw_714 jw_716 jw_717 jw_715 jw_713 jn_J0_coder_7d493 rfl (jj_le rfl) (jj_le rfl) (jj_le rfl) (jj_le rfl) (jj_le rfl) dJ0_length_8abf5_6 rfl (fun _ _ hX => hX.elim) (fun w1 r O_2 => ?_)
  obtain ⟨rfl, rfl⟩ := O_2
  refine jj_apd rfl ?_
  refine jj_ishr (v := 4) C dJ0_length_8abf5_9 (by decide) ?_
  exact jj_iret C ⟨rfl, rfl⟩ dJ0_length_8abf5_10 (jj_le rfl) (jj_le rfl)


set_option maxHeartbeats 4000000 in
set_option maxRecDepth 100000 in
theorem ct_J0_isLatin1_aae02_4 {l : Launch} (hl : l.stackTraces = false) (D : va_G) (cA : Nat → ClassId) (ak : (Nat → Nat) × (Nat → Nat)) : jj_M l D cA ak yJ0_isLatin1_aae02 (.code yJ0_isLatin1_aae02 cJ0_isLatin1_aae02 1 (some .boolean)) 0 0 0 0 [] [.ref (ak.1 33)] (fun (w : va_W) (r : Option Value) => (w = [] ∧ r = some (.int 1))) jj_noX := by
  refine jj_start hl (by decide) jw_893 (jj_le rfl) ?_
  intro p e s m args below meth c A hargs hA C hex hmn
  refine jj_gcs C jw_711 dJ0_isLatin1_aae02_0 ?_
  refine jj_if_eqF (tgt := 17) C dJ0_isLatin1_aae02_3 (by decide) (by decide) ?_
  refine jj_aload_n C dJ0_isLatin1_aae02_6 rfl ?_
  refine jj_scod (k := 33) C (by decide) jw_712 dJ0_isLatin1_aae02_7 ?_
  refine jj_if_neF (tgt := 17) C dJ0_isLatin1_aae02_10 (by decide) (by decide) ?_
  refine jj_iconst (v := 1) C dJ0_isLatin1_aae02_13 (by decide) ?_
  refine jj_goto (tgt := 18) C dJ0_isLatin1_aae02_14 (by decide) ?_
  exact jj_zret C rfl ⟨rfl, rfl⟩ dJ0_isLatin1_aae02_18 (jj_le rfl) (jj_le rfl)


set_option maxHeartbeats 4000000 in
set_option maxRecDepth 100000 in
theorem ct_J1_charAt_3b067_14 {l : Launch} (hl : l.stackTraces = false) (D : va_G) (cA : Nat → ClassId) (ak : (Nat → Nat) × (Nat → Nat)) : jj_M l D cA ak yJ1_charAt_3b067 (.code yJ1_charAt_3b067 cJ1_charAt_3b067 2 (some .char)) 2 43 0 0 [] [.ref (ak.2 33), .int 0] (fun (w : va_W) (r : Option Value) => (w = [] ∧ r = some (.int 100))) jj_noX := by
  refine jj_start hl (by decide) jw_908 (jj_le rfl) ?_
  intro p e s m args below meth c A hargs hA C hex hmn
  refine jj_iload_n C dJ1_charAt_3b067_0 rfl ?_
  refine jj_aload_n C dJ1_charAt_3b067_1 rfl ?_
  refine jj_slen (k := 33) (v := 4) C (by decide) (by decide) dJ1_charAt_3b067_2 ?_
  refine jq_callS (rest := []) C (ct_J0_checkIndex_df160_1 hl D cA ak) [] [] rfl rfl (by decide) (by decide) (by decide) jw_905 jw_906 jw_715 jw_904 jn_J0_checkIndex_df160 rfl (jj_le rfl) (jj_le rfl) (jj_le rfl) (jj_le rfl) (jj_le rfl) dJ1_charAt_3b067_3 rfl (fun _ _ hX => hX.elim) (fun w1 r O_2 => ?_)
  obtain ⟨rfl, rfl⟩ := O_2
  refine jj_apd rfl ?_
  refine jj_aload_n C dJ1_charAt_3b067_6 rfl ?_
  refine jj_iload_n C dJ1_charAt_3b067_7 rfl ?_
  refine jj_sbyt (k := 33) (v := 100) C (by decide) (vp_in_iff.mpr (by decide)) (by decide) dJ1_charAt_3b067_8 ?_
  refine jj_sipush (v := 255) C dJ1_charAt_3b067_9 (by decide) ?_
  refine jj_iand (v := 100) C dJ1_charAt_3b067_12 (by decide) ?_
  refine jj_i2c (v := 100) C dJ1_charAt_3b067_13 (by decide) ?_
  exact jj_zret C rfl ⟨rfl, rfl⟩ dJ1_charAt_3b067_14 (jj_le rfl) (jj_le rfl)


set_option maxHeartbeats 4000000 in
set_option maxRecDepth 100000 in
theorem ct_J0_charAt_5068e_14 {l : Launch} (hl : l.stackTraces = false) (D : va_G) (cA : Nat → ClassId) (ak : (Nat → Nat) × (Nat → Nat)) : jj_M l D cA ak yJ0_charAt_5068e (.code yJ0_charAt_5068e cJ0_charAt_5068e 2 (some .char)) 3 64 0 0 [] [.ref (ak.1 33), .int 0] (fun (w : va_W) (r : Option Value) => (w = [] ∧ r = some (.int 100))) jj_noX := by
  refine jj_start hl (by decide) jw_913 (jj_le rfl) ?_
  intro p e s m args below meth c A hargs hA C hex hmn
  refine jj_aload_n C dJ0_charAt_5068e_0 rfl ?_
  refine jq_callVs (rest := []) C (ct_J0_isLatin1_aae02_4 hl D cA ak) [] [] rfl rfl (by decide) (by decide) (by decide) 33 (by decide) rfl jw_894 jw_895 jw_896 jw_715 jw_893 jn_J0_isLatin1_aae02 rfl (jj_le rfl) (jj_le rfl) (jj_le rfl) (jj_le rfl) (jj_le rfl) dJ0_charAt_5068e_1 rfl (fun _ _ hX => hX.elim) (fun w1 r O_2 => ?_)
  obtain ⟨rfl, rfl⟩ := O_2
  refine jj_apd rfl ?_
  refine jj_if_eqF (tgt := 16) C dJ0_charAt_5068e_4 (by decide) (by decide) ?_
  refine jj_aload_n C dJ0_charAt_5068e_7 rfl ?_
  refine jj_sval (k := 33) C (by decide) jw_710 dJ0_charAt_5068e_8 ?_
  refine jj_iload_n C dJ0_charAt_5068e_11 rfl ?_
  refine jq_callS (rest := []) C (ct_J1_charAt_3b067_14 hl D cA ak) [] [] rfl rfl (by decide) (by decide) (by decide) jw_909 jw_911 jw_910 jw_908 jn_J1_charAt_3b067 rfl (jj_le rfl) (jj_le rfl) (jj_le rfl) (jj_le rfl) (jj_le rfl) dJ0_charAt_5068e_12 rfl (fun _ _ hX => hX.elim) (fun w1 r O_4 => ?_)
  obtain ⟨rfl, rfl⟩ := O_4
  refine jj_apd rfl ?_
  exact jj_zret C rfl ⟨rfl, rfl⟩ dJ0_charAt_5068e_15 (jj_le rfl) (jj_le rfl)


set_option maxHeartbeats 4000000 in
set_option maxRecDepth 100000 in
theorem ct_X11_print_1 {l : Launch} (hl : l.stackTraces = false) (D : va_G) (cA : Nat → ClassId) (ak : (Nat → Nat) × (Nat → Nat)) (h0 h1 h2 h3 h4 h5 h6 h7 h8 h9 h10 h11 h12 : Nat) : jj_M l D cA ak yX11_print (.code yX11_print cX11_print 2 none) 0 0 0 0 [(h0, .inr (12, [.ref h2, .ref h3, .ref h4, .ref h5, .ref h6, .ref h7, .int 0, .int 0, .long 0, .long 0, .ref h8, .ref h9, .ref h10, .int 0, .int 0, .int 0, .int 0, .int 0, .int (-1), .int 0, .int 0, .ref h11, .ref h12, .ref h1, .int 0])), (h1, .inl (cA 0, 2400, .inl (fun _ => 0)))] [.ref h0, .int 100] (fun (w : va_W) (r : Option Value) => (w = [(h0, .inr (12, [.ref h2, .ref h3, .ref h4, .ref h5, .ref h6, .ref h7, .int 0, .int 0, .long 0, .long 0, .ref h8, .ref h9, .ref h10, .int 0, .int 0, .int 0, .int 0, .int 0, .int (-1), .int 0, .int 0, .ref h11, .ref h12, .ref h1, .int 1])), (h1, .inl (cA 0, 2400, .inl (upd (fun _ => 0) 0 100)))] ∧ r = none)) jj_noX := by
  refine jj_start hl (by decide) jw_949 (jj_le rfl) ?_
  intro p e s m args below meth c A hargs hA C hex hmn
  refine jj_aload_n C dX11_print_0 rfl ?_
  refine jj_get C jk_12 23 (by decide) jw_220 0 rfl rfl dX11_print_1 ?_
  refine jj_aload_n C dX11_print_4 rfl ?_
  refine jj_get C jk_12 24 (by decide) jw_625 0 rfl rfl dX11_print_5 ?_
  refine jj_iload_n C dX11_print_8 rfl ?_
  refine jj_i2b (v := 100) C dX11_print_9 (by decide) ?_
  refine jj_bast C 1 rfl (vp_in_iff.mpr (by decide)) (g := (upd (fun _ => 0) 0 100)) rfl rfl dX11_print_10 ?_
  refine jj_aload_n C dX11_print_11 rfl ?_
  refine jj_dup C dX11_print_12 rfl ?_
  refine jj_get C jk_12 24 (by decide) jw_625 0 rfl rfl dX11_print_13 ?_
  refine jj_iconst (v := 1) C dX11_print_16 (by decide) ?_
  refine jj_iadd (v := 1) C dX11_print_17 (by decide) ?_
  refine jj_put C jk_12 24 (by decide) jw_625 rfl 0 rfl rfl rfl rfl rfl dX11_print_18 ?_
  exact jj_vret C ⟨rfl, rfl⟩ dX11_print_21 (jj_le rfl) (jj_le rfl)


set_option maxHeartbeats 4000000 in
set_option maxRecDepth 100000 in
theorem ct_J1_charAt_3b067_15 {l : Launch} (hl : l.stackTraces = false) (D : va_G) (cA : Nat → ClassId) (ak : (Nat → Nat) × (Nat → Nat)) : jj_M l D cA ak yJ1_charAt_3b067 (.code yJ1_charAt_3b067 cJ1_charAt_3b067 2 (some .char)) 2 43 0 0 [] [.ref (ak.2 33), .int 1] (fun (w : va_W) (r : Option Value) => (w = [] ∧ r = some (.int 97))) jj_noX := by
  refine jj_start hl (by decide) jw_908 (jj_le rfl) ?_
  intro p e s m args below meth c A hargs hA C hex hmn
  refine jj_iload_n C dJ1_charAt_3b067_0 rfl ?_
  refine jj_aload_n C dJ1_charAt_3b067_1 rfl ?_
  refine jj_slen (k := 33) (v := 4) C (by decide) (by decide) dJ1_charAt_3b067_2 ?_
  refine jq_callS (rest := []) C (ct_J0_checkIndex_df160_2 hl D cA ak) [] [] rfl rfl (by decide) (by decide) (by decide) jw_905 jw_906 jw_715 jw_904 jn_J0_checkIndex_df160 rfl (jj_le rfl) (jj_le rfl) (jj_le rfl) (jj_le rfl) (jj_le rfl) dJ1_charAt_3b067_3 rfl (fun _ _ hX => hX.elim) (fun w1 r O_2 => ?_)
  obtain ⟨rfl, rfl⟩ := O_2
  refine jj_apd rfl ?_
  refine jj_aload_n C dJ1_charAt_3b067_6 rfl ?_
  refine jj_iload_n C dJ1_charAt_3b067_7 rfl ?_
  refine jj_sbyt (k := 33) (v := 97) C (by decide) (vp_in_iff.mpr (by decide)) (by decide) dJ1_charAt_3b067_8 ?_
  refine jj_sipush (v := 255) C dJ1_charAt_3b067_9 (by decide) ?_
  refine jj_iand (v := 97) C dJ1_charAt_3b067_12 (by decide) ?_
  refine jj_i2c (v := 97) C dJ1_charAt_3b067_13 (by decide) ?_
  exact jj_zret C rfl ⟨rfl, rfl⟩ dJ1_charAt_3b067_14 (jj_le rfl) (jj_le rfl)


set_option maxHeartbeats 4000000 in
set_option maxRecDepth 100000 in
theorem ct_J0_charAt_5068e_15 {l : Launch} (hl : l.stackTraces = false) (D : va_G) (cA : Nat → ClassId) (ak : (Nat → Nat) × (Nat → Nat)) : jj_M l D cA ak yJ0_charAt_5068e (.code yJ0_charAt_5068e cJ0_charAt_5068e 2 (some .char)) 3 64 0 0 [] [.ref (ak.1 33), .int 1] (fun (w : va_W) (r : Option Value) => (w = [] ∧ r = some (.int 97))) jj_noX := by
  refine jj_start hl (by decide) jw_913 (jj_le rfl) ?_
  intro p e s m args below meth c A hargs hA C hex hmn
  refine jj_aload_n C dJ0_charAt_5068e_0 rfl ?_
  refine jq_callVs (rest := []) C (ct_J0_isLatin1_aae02_4 hl D cA ak) [] [] rfl rfl (by decide) (by decide) (by decide) 33 (by decide) rfl jw_894 jw_895 jw_896 jw_715 jw_893 jn_J0_isLatin1_aae02 rfl (jj_le rfl) (jj_le rfl) (jj_le rfl) (jj_le rfl) (jj_le rfl) dJ0_charAt_5068e_1 rfl (fun _ _ hX => hX.elim) (fun w1 r O_2 => ?_)
  obtain ⟨rfl, rfl⟩ := O_2
  refine jj_apd rfl ?_
  refine jj_if_eqF (tgt := 16) C dJ0_charAt_5068e_4 (by decide) (by decide) ?_
  refine jj_aload_n C dJ0_charAt_5068e_7 rfl ?_
  refine jj_sval (k := 33) C (by decide) jw_710 dJ0_charAt_5068e_8 ?_
  refine jj_iload_n C dJ0_charAt_5068e_11 rfl ?_
  refine jq_callS (rest := []) C (ct_J1_charAt_3b067_15 hl D cA ak) [] [] rfl rfl (by decide) (by decide) (by decide) jw_909 jw_911 jw_910 jw_908 jn_J1_charAt_3b067 rfl (jj_le rfl) (jj_le rfl) (jj_le rfl) (jj_le rfl) (jj_le rfl) dJ0_charAt_5068e_12 rfl (fun _ _ hX => hX.elim) (fun w1 r O_4 => ?_)
  obtain ⟨rfl, rfl⟩ := O_4
  refine jj_apd rfl ?_
  exact jj_zret C rfl ⟨rfl, rfl⟩ dJ0_charAt_5068e_15 (jj_le rfl) (jj_le rfl)


set_option maxHeartbeats 4000000 in
set_option maxRecDepth 100000 in
theorem ct_X11_print_2 {l : Launch} (hl : l.stackTraces = false) (D : va_G) (cA : Nat → ClassId) (ak : (Nat → Nat) × (Nat → Nat)) (h0 h1 h2 h3 h4 h5 h6 h7 h8 h9 h10 h11 h12 : Nat) : jj_M l D cA ak yX11_print (.code yX11_print cX11_print 2 none) 0 0 0 0 [(h0, .inr (12, [.ref h2, .ref h3, .ref h4, .ref h5, .ref h6, .ref h7, .int 0, .int 0, .long 0, .long 0, .ref h8, .ref h9, .ref h10, .int 0, .int 0, .int 0, .int 0, .int 0, .int (-1), .int 0, .int 0, .ref h11, .ref h12, .ref h1, .int 1])), (h1, .inl (cA 0, 2400, .inl (upd (fun _ => 0) 0 100)))] [.ref h0, .int 97] (fun (w : va_W) (r : Option Value) => (w = [(h0, .inr (12, [.ref h2, .ref h3, .ref h4, .ref h5, .ref h6, .ref h7, .int 0, .int 0, .long 0, .long 0, .ref h8, .ref h9, .ref h10, .int 0, .int 0, .int 0, .int 0, .int 0, .int (-1), .int 0, .int 0, .ref h11, .ref h12, .ref h1, .int 2])), (h1, .inl (cA 0, 2400, .inl (upd (upd (fun _ => 0) 0 100) 1 97)))] ∧ r = none)) jj_noX := by
  refine jj_start hl (by decide) jw_949 (jj_le rfl) ?_
  intro p e s m args below meth c A hargs hA C hex hmn
  refine jj_aload_n C dX11_print_0 rfl ?_
  refine jj_get C jk_12 23 (by decide) jw_220 0 rfl rfl dX11_print_1 ?_
  refine jj_aload_n C dX11_print_4 rfl ?_
  refine jj_get C jk_12 24 (by decide) jw_625 0 rfl rfl dX11_print_5 ?_
  refine jj_iload_n C dX11_print_8 rfl ?_
  refine jj_i2b (v := 97) C dX11_print_9 (by decide) ?_
  refine jj_bast C 1 rfl (vp_in_iff.mpr (by decide)) (g := (upd (upd (fun _ => 0) 0 100) 1 97)) rfl rfl dX11_print_10 ?_
  refine jj_aload_n C dX11_print_11 rfl ?_
  refine jj_dup C dX11_print_12 rfl ?_
  refine jj_get C jk_12 24 (by decide) jw_625 0 rfl rfl dX11_print_13 ?_
  refine jj_iconst (v := 1) C dX11_print_16 (by decide) ?_
  refine jj_iadd (v := 2) C dX11_print_17 (by decide) ?_
  refine jj_put C jk_12 24 (by decide) jw_625 rfl 0 rfl rfl rfl rfl rfl dX11_print_18 ?_
  exact jj_vret C ⟨rfl, rfl⟩ dX11_print_21 (jj_le rfl) (jj_le rfl)


set_option maxHeartbeats 4000000 in
set_option maxRecDepth 100000 in
theorem ct_J1_charAt_3b067_16 {l : Launch} (hl : l.stackTraces = false) (D : va_G) (cA : Nat → ClassId) (ak : (Nat → Nat) × (Nat → Nat)) : jj_M l D cA ak yJ1_charAt_3b067 (.code yJ1_charAt_3b067 cJ1_charAt_3b067 2 (some .char)) 2 43 0 0 [] [.ref (ak.2 33), .int 2] (fun (w : va_W) (r : Option Value) => (w = [] ∧ r = some (.int 121))) jj_noX := by
  refine jj_start hl (by decide) jw_908 (jj_le rfl) ?_
  intro p e s m args below meth c A hargs hA C hex hmn
  refine jj_iload_n C dJ1_charAt_3b067_0 rfl ?_
  refine jj_aload_n C dJ1_charAt_3b067_1 rfl ?_
  refine jj_slen (k := 33) (v := 4) C (by decide) (by decide) dJ1_charAt_3b067_2 ?_
  refine jq_callS (rest := []) C (ct_J0_checkIndex_df160_3 hl D cA ak) [] [] rfl rfl (by decide) (by decide) (by decide) jw_905 jw_906 jw_715 jw_904 jn_J0_checkIndex_df160 rfl (jj_le rfl) (jj_le rfl) (jj_le rfl) (jj_le rfl) (jj_le rfl) dJ1_charAt_3b067_3 rfl (fun _ _ hX => hX.elim) (fun w1 r O_2 => ?_)
  obtain ⟨rfl, rfl⟩ := O_2
  refine jj_apd rfl ?_
  refine jj_aload_n C dJ1_charAt_3b067_6 rfl ?_
  refine jj_iload_n C dJ1_charAt_3b067_7 rfl ?_
  refine jj_sbyt (k := 33) (v := 121) C (by decide) (vp_in_iff.mpr (by decide)) (by decide) dJ1_charAt_3b067_8 ?_
  refine jj_sipush (v := 255) C dJ1_charAt_3b067_9 (by decide) ?_
  refine jj_iand (v := 121) C dJ1_charAt_3b067_12 (by decide) ?_
  refine jj_i2c (v := 121) C dJ1_charAt_3b067_13 (by decide) ?_
  exact jj_zret C rfl ⟨rfl, rfl⟩ dJ1_charAt_3b067_14 (jj_le rfl) (jj_le rfl)


set_option maxHeartbeats 4000000 in
set_option maxRecDepth 100000 in
theorem ct_J0_charAt_5068e_16 {l : Launch} (hl : l.stackTraces = false) (D : va_G) (cA : Nat → ClassId) (ak : (Nat → Nat) × (Nat → Nat)) : jj_M l D cA ak yJ0_charAt_5068e (.code yJ0_charAt_5068e cJ0_charAt_5068e 2 (some .char)) 3 64 0 0 [] [.ref (ak.1 33), .int 2] (fun (w : va_W) (r : Option Value) => (w = [] ∧ r = some (.int 121))) jj_noX := by
  refine jj_start hl (by decide) jw_913 (jj_le rfl) ?_
  intro p e s m args below meth c A hargs hA C hex hmn
  refine jj_aload_n C dJ0_charAt_5068e_0 rfl ?_
  refine jq_callVs (rest := []) C (ct_J0_isLatin1_aae02_4 hl D cA ak) [] [] rfl rfl (by decide) (by decide) (by decide) 33 (by decide) rfl jw_894 jw_895 jw_896 jw_715 jw_893 jn_J0_isLatin1_aae02 rfl (jj_le rfl) (jj_le rfl) (jj_le rfl) (jj_le rfl) (jj_le rfl) dJ0_charAt_5068e_1 rfl (fun _ _ hX => hX.elim) (fun w1 r O_2 => ?_)
  obtain ⟨rfl, rfl⟩ := O_2
  refine jj_apd rfl ?_
  refine jj_if_eqF (tgt := 16) C dJ0_charAt_5068e_4 (by decide) (by decide) ?_
  refine jj_aload_n C dJ0_charAt_5068e_7 rfl ?_
  refine jj_sval (k := 33) C (by decide) jw_710 dJ0_charAt_5068e_8 ?_
  refine jj_iload_n C dJ0_charAt_5068e_11 rfl ?_
  refine jq_callS (rest := []) C (ct_J1_charAt_3b067_16 hl D cA ak) [] [] rfl rfl (by decide) (by decide) (by decide) jw_909 jw_911 jw_910 jw_908 jn_J1_charAt_3b067 rfl (jj_le rfl) (jj_le rfl) (jj_le rfl) (jj_le rfl) (jj_le rfl) dJ0_charAt_5068e_12 rfl (fun _ _ hX => hX.elim) (fun w1 r O_4 => ?_)
  obtain ⟨rfl, rfl⟩ := O_4
  refine jj_apd rfl ?_
  exact jj_zret C rfl ⟨rfl, rfl⟩ dJ0_charAt_5068e_15 (jj_le rfl) (jj_le rfl)


set_option maxHeartbeats 4000000 in
set_option maxRecDepth 100000 in
theorem ct_X11_print_3 {l : Launch} (hl : l.stackTraces = false) (D : va_G) (cA : Nat → ClassId) (ak : (Nat → Nat) × (Nat → Nat)) (h0 h1 h2 h3 h4 h5 h6 h7 h8 h9 h10 h11 h12 : Nat) : jj_M l D cA ak yX11_print (.code yX11_print cX11_print 2 none) 0 0 0 0 [(h0, .inr (12, [.ref h2, .ref h3, .ref h4, .ref h5, .ref h6, .ref h7, .int 0, .int 0, .long 0, .long 0, .ref h8, .ref h9, .ref h10, .int 0, .int 0, .int 0, .int 0, .int 0, .int (-1), .int 0, .int 0, .ref h11, .ref h12, .ref h1, .int 2])), (h1, .inl (cA 0, 2400, .inl (upd (upd (fun _ => 0) 0 100) 1 97)))] [.ref h0, .int 121] (fun (w : va_W) (r : Option Value) => (w = [(h0, .inr (12, [.ref h2, .ref h3, .ref h4, .ref h5, .ref h6, .ref h7, .int 0, .int 0, .long 0, .long 0, .ref h8, .ref h9, .ref h10, .int 0, .int 0, .int 0, .int 0, .int 0, .int (-1), .int 0, .int 0, .ref h11, .ref h12, .ref h1, .int 3])), (h1, .inl (cA 0, 2400, .inl (upd (upd (upd (fun _ => 0) 0 100) 1 97) 2 121)))] ∧ r = none)) jj_noX := by
  refine jj_start hl (by decide) jw_949 (jj_le rfl) ?_
  intro p e s m args below meth c A hargs hA C hex hmn
  refine jj_aload_n C dX11_print_0 rfl ?_
  refine jj_get C jk_12 23 (by decide) jw_220 0 rfl rfl dX11_print_1 ?_
  refine jj_aload_n C dX11_print_4 rfl ?_
  refine jj_get C jk_12 24 (by decide) jw_625 0 rfl rfl dX11_print_5 ?_
  refine jj_iload_n C dX11_print_8 rfl ?_
  refine jj_i2b (v := 121) C dX11_print_9 (by decide) ?_
  refine jj_bast C 1 rfl (vp_in_iff.mpr (by decide)) (g := (upd (upd (upd (fun _ => 0) 0 100) 1 97) 2 121)) rfl rfl dX11_print_10 ?_
  refine jj_aload_n C dX11_print_11 rfl ?_
  refine jj_dup C dX11_print_12 rfl ?_
  refine jj_get C jk_12 24 (by decide) jw_625 0 rfl rfl dX11_print_13 ?_
  refine jj_iconst (v := 1) C dX11_print_16 (by decide) ?_
  refine jj_iadd (v := 3) C dX11_print_17 (by decide) ?_
  refine jj_put C jk_12 24 (by decide) jw_625 rfl 0 rfl rfl rfl rfl rfl dX11_print_18 ?_
  exact jj_vret C ⟨rfl, rfl⟩ dX11_print_21 (jj_le rfl) (jj_le rfl)


set_option maxHeartbeats 4000000 in
set_option maxRecDepth 100000 in
theorem ct_J1_charAt_3b067_17 {l : Launch} (hl : l.stackTraces = false) (D : va_G) (cA : Nat → ClassId) (ak : (Nat → Nat) × (Nat → Nat)) : jj_M l D cA ak yJ1_charAt_3b067 (.code yJ1_charAt_3b067 cJ1_charAt_3b067 2 (some .char)) 2 43 0 0 [] [.ref (ak.2 33), .int 3] (fun (w : va_W) (r : Option Value) => (w = [] ∧ r = some (.int 32))) jj_noX := by
  refine jj_start hl (by decide) jw_908 (jj_le rfl) ?_
  intro p e s m args below meth c A hargs hA C hex hmn
  refine jj_iload_n C dJ1_charAt_3b067_0 rfl ?_
  refine jj_aload_n C dJ1_charAt_3b067_1 rfl ?_
  refine jj_slen (k := 33) (v := 4) C (by decide) (by decide) dJ1_charAt_3b067_2 ?_
  refine jq_callS (rest := []) C (ct_J0_checkIndex_df160_4 hl D cA ak) [] [] rfl rfl (by decide) (by decide) (by decide) jw_905 jw_906 jw_715 jw_904 jn_J0_checkIndex_df160 rfl (jj_le rfl) (jj_le rfl) (jj_le rfl) (jj_le rfl) (jj_le rfl) dJ1_charAt_3b067_3 rfl (fun _ _ hX => hX.elim) (fun w1 r O_2 => ?_)
  obtain ⟨rfl, rfl⟩ := O_2
  refine jj_apd rfl ?_
  refine jj_aload_n C dJ1_charAt_3b067_6 rfl ?_
  refine jj_iload_n C dJ1_charAt_3b067_7 rfl ?_
  refine jj_sbyt (k := 33) (v := 32) C (by decide) (vp_in_iff.mpr (by decide)) (by decide) dJ1_charAt_3b067_8 ?_
  refine jj_sipush (v := 255) C dJ1_charAt_3b067_9 (by decide) ?_
  refine jj_iand (v := 32) C dJ1_charAt_3b067_12 (by decide) ?_
  refine jj_i2c (v := 32) C dJ1_charAt_3b067_13 (by decide) ?_
  exact jj_zret C rfl ⟨rfl, rfl⟩ dJ1_charAt_3b067_14 (jj_le rfl) (jj_le rfl)


set_option maxHeartbeats 4000000 in
set_option maxRecDepth 100000 in
theorem ct_J0_charAt_5068e_17 {l : Launch} (hl : l.stackTraces = false) (D : va_G) (cA : Nat → ClassId) (ak : (Nat → Nat) × (Nat → Nat)) : jj_M l D cA ak yJ0_charAt_5068e (.code yJ0_charAt_5068e cJ0_charAt_5068e 2 (some .char)) 3 64 0 0 [] [.ref (ak.1 33), .int 3] (fun (w : va_W) (r : Option Value) => (w = [] ∧ r = some (.int 32))) jj_noX := by
  refine jj_start hl (by decide) jw_913 (jj_le rfl) ?_
  intro p e s m args below meth c A hargs hA C hex hmn
  refine jj_aload_n C dJ0_charAt_5068e_0 rfl ?_
  refine jq_callVs (rest := []) C (ct_J0_isLatin1_aae02_4 hl D cA ak) [] [] rfl rfl (by decide) (by decide) (by decide) 33 (by decide) rfl jw_894 jw_895 jw_896 jw_715 jw_893 jn_J0_isLatin1_aae02 rfl (jj_le rfl) (jj_le rfl) (jj_le rfl) (jj_le rfl) (jj_le rfl) dJ0_charAt_5068e_1 rfl (fun _ _ hX => hX.elim) (fun w1 r O_2 => ?_)
  obtain ⟨rfl, rfl⟩ := O_2
  refine jj_apd rfl ?_
  refine jj_if_eqF (tgt := 16) C dJ0_charAt_5068e_4 (by decide) (by decide) ?_
  refine jj_aload_n C dJ0_charAt_5068e_7 rfl ?_
  refine jj_sval (k := 33) C (by decide) jw_710 dJ0_charAt_5068e_8 ?_
  refine jj_iload_n C dJ0_charAt_5068e_11 rfl ?_
  refine jq_callS (rest := []) C (ct_J1_charAt_3b067_17 hl D cA ak) [] [] rfl rfl (by decide) (by decide) (by decide) jw_909 jw_911 jw_910 jw_908 jn_J1_charAt_3b067 rfl (jj_le rfl) (jj_le rfl) (jj_le rfl) (jj_le rfl) (jj_le rfl) dJ0_charAt_5068e_12 rfl (fun _ _ hX => hX.elim) (fun w1 r O_4 => ?_)
  obtain ⟨rfl, rfl⟩ := O_4
  refine jj_apd rfl ?_
  exact jj_zret C rfl ⟨rfl, rfl⟩ dJ0_charAt_5068e_15 (jj_le rfl) (jj_le rfl)


set_option maxHeartbeats 4000000 in
set_option maxRecDepth 100000 in
theorem ct_X11_print_4 {l : Launch} (hl : l.stackTraces = false) (D : va_G) (cA : Nat → ClassId) (ak : (Nat → Nat) × (Nat → Nat)) (h0 h1 h2 h3 h4 h5 h6 h7 h8 h9 h10 h11 h12 : Nat) : jj_M l D cA ak yX11_print (.code yX11_print cX11_print 2 none) 0 0 0 0 [(h0, .inr (12, [.ref h2, .ref h3, .ref h4, .ref h5, .ref h6, .ref h7, .int 0, .int 0, .long 0, .long 0, .ref h8, .ref h9, .ref h10, .int 0, .int 0, .int 0, .int 0, .int 0, .int (-1), .int 0, .int 0, .ref h11, .ref h12, .ref h1, .int 3])), (h1, .inl (cA 0, 2400, .inl (upd (upd (upd (fun _ => 0) 0 100) 1 97) 2 121)))] [.ref h0, .int 32] (fun (w : va_W) (r : Option Value) => (w = [(h0, .inr (12, [.ref h2, .ref h3, .ref h4, .ref h5, .ref h6, .ref h7, .int 0, .int 0, .long 0, .long 0, .ref h8, .ref h9, .ref h10, .int 0, .int 0, .int 0, .int 0, .int 0, .int (-1), .int 0, .int 0, .ref h11, .ref h12, .ref h1, .int 4])), (h1, .inl (cA 0, 2400, .inl (upd (upd (upd (upd (fun _ => 0) 0 100) 1 97) 2 121) 3 32)))] ∧ r = none)) jj_noX := by
  refine jj_start hl (by decide) jw_949 (jj_le rfl) ?_
  intro p e s m args below meth c A hargs hA C hex hmn
  refine jj_aload_n C dX11_print_0 rfl ?_
  refine jj_get C jk_12 23 (by decide) jw_220 0 rfl rfl dX11_print_1 ?_
  refine jj_aload_n C dX11_print_4 rfl ?_
  refine jj_get C jk_12 24 (by decide) jw_625 0 rfl rfl dX11_print_5 ?_
  refine jj_iload_n C dX11_print_8 rfl ?_
  refine jj_i2b (v := 32) C dX11_print_9 (by decide) ?_
  refine jj_bast C 1 rfl (vp_in_iff.mpr (by decide)) (g := (upd (upd (upd (upd (fun _ => 0) 0 100) 1 97) 2 121) 3 32)) rfl rfl dX11_print_10 ?_
  refine jj_aload_n C dX11_print_11 rfl ?_
  refine jj_dup C dX11_print_12 rfl ?_
  refine jj_get C jk_12 24 (by decide) jw_625 0 rfl rfl dX11_print_13 ?_
  refine jj_iconst (v := 1) C dX11_print_16 (by decide) ?_
  refine jj_iadd (v := 4) C dX11_print_17 (by decide) ?_
  refine jj_put C jk_12 24 (by decide) jw_625 rfl 0 rfl rfl rfl rfl rfl dX11_print_18 ?_
  exact jj_vret C ⟨rfl, rfl⟩ dX11_print_21 (jj_le rfl) (jj_le rfl)


set_option maxHeartbeats 4000000 in
set_option maxRecDepth 100000 in
theorem ct_X11_printWord_1 {l : Launch} (hl : l.stackTraces = false) (D : va_G) (cA : Nat → ClassId) (ak : (Nat → Nat) × (Nat → Nat)) (h0 h1 h2 h3 h4 h5 h6 h7 h8 h9 h10 h11 h12 : Nat) : jj_M l D cA ak yX11_printWord (.code yX11_printWord cX11_printWord 3 none) 4 85 0 0 [(h0, .inr (12, [.ref h2, .ref h3, .ref h4, .ref h5, .ref h6, .ref h7, .int 0, .int 0, .long 0, .long 0, .ref h8, .ref h9, .ref h10, .int 0, .int 0, .int 0, .int 0, .int 0, .int (-1), .int 0, .int 0, .ref h11, .ref h12, .ref h1, .int 0])), (h1, .inl (cA 0, 2400, .inl (fun _ => 0)))] [.ref h0, .ref (ak.1 33)] (fun (w : va_W) (r : Option Value) => (w = [(h0, .inr (12, [.ref h2, .ref h3, .ref h4, .ref h5, .ref h6, .ref h7, .int 0, .int 0, .long 0, .long 0, .ref h8, .ref h9, .ref h10, .int 0, .int 0, .int 0, .int 0, .int 0, .int (-1), .int 0, .int 0, .ref h11, .ref h12, .ref h1, .int 4])), (h1, .inl (cA 0, 2400, .inl (upd (upd (upd (upd (fun _ => 0) 0 100) 1 97) 2 121) 3 32)))] ∧ r = none)) jj_noX := by
  refine jj_start hl (by decide) jw_954 (jj_le rfl) ?_
  intro p e s m args below meth c A hargs hA C hex hmn
  refine jj_iconst (v := 0) C dX11_printWord_0 (by decide) ?_
  refine jj_istore_n C dX11_printWord_1 (by decide) rfl ?_
  refine jj_iload_n C dX11_printWord_2 rfl ?_
  refine jj_aload_n C dX11_printWord_3 rfl ?_
  refine jq_callVs (rest := [.int 0]) C (ct_J0_length_8abf5_9 hl D cA ak) [] [0, 1] rfl rfl (by decide) (by decide) (by decide) 33 (by decide) rfl jw_720 jw_721 jw_722 jw_715 jw_719 jn_J0_length_8abf5 rfl (jj_le rfl) (jj_le rfl) (jj_le rfl) (jj_le rfl) (jj_le rfl) dX11_printWord_4 rfl (fun _ _ hX => hX.elim) (fun w1 r O_2 => ?_)
  obtain ⟨rfl, rfl⟩ := O_2
  refine jj_apd rfl ?_
  refine jj_icmp_geF (tgt := 25) C dX11_printWord_7 (by decide) (by decide) ?_
  refine jj_aload_n C dX11_printWord_10 rfl ?_
  refine jj_aload_n C dX11_printWord_11 rfl ?_
  refine jj_iload_n C dX11_printWord_12 rfl ?_
  refine jq_callVs (rest := [.ref h0]) C (ct_J0_charAt_5068e_14 hl D cA ak) [] [0, 1] rfl rfl (by decide) (by decide) (by decide) 33 (by decide) rfl jw_948 jw_915 jw_916 jw_715 jw_913 jn_J0_charAt_5068e rfl (jj_le rfl) (jj_le rfl) (jj_le rfl) (jj_le rfl) (jj_le rfl) dX11_printWord_13 rfl (fun _ _ hX => hX.elim) (fun w1 r O_4 => ?_)
  obtain ⟨rfl, rfl⟩ := O_4
  refine jj_apd rfl ?_
  refine jq_callV (rest := []) C (ct_X11_print_1 hl D cA ak h0 h1 h2 h3 h4 h5 h6 h7 h8 h9 h10 h11 h12) [0, 1] [] rfl rfl (by decide) (by decide) (by decide) 0 rfl rfl rfl jw_950 jw_951 jw_952 jw_224 jw_949 jn_X11_print rfl (jj_le rfl) (jj_le rfl) (jj_le rfl) (jj_le rfl) (jj_le rfl) dX11_printWord_16 rfl (fun _ _ hX => hX.elim) (fun w1 r O_6 => ?_)
  obtain ⟨rfl, rfl⟩ := O_6
  refine jj_apd rfl ?_
  refine jj_iinc (v := 1) C dX11_printWord_19 rfl (by decide) (by decide) rfl ?_
  refine jj_goto (tgt := 2) C dX11_printWord_22 (by decide) ?_
  refine jj_iload_n C dX11_printWord_2 rfl ?_
  refine jj_aload_n C dX11_printWord_3 rfl ?_
  refine jq_callVs (rest := [.int 1]) C (ct_J0_length_8abf5_9 hl D cA ak) [] [0, 1] rfl rfl (by decide) (by decide) (by decide) 33 (by decide) rfl jw_720 jw_721 jw_722 jw_715 jw_719 jn_J0_length_8abf5 rfl (jj_le rfl) (jj_le rfl) (jj_le rfl) (jj_le rfl) (jj_le rfl) dX11_printWord_4 rfl (fun _ _ hX => hX.elim) (fun w1 r O_8 => ?_)
  obtain ⟨rfl, rfl⟩ := O_8
  refine jj_apd rfl ?_
  refine jj_icmp_geF (tgt := 25) C dX11_printWord_7 (by decide) (by decide) ?_
  refine jj_aload_n C dX11_printWord_10 rfl ?_
  refine jj_aload_n C dX11_printWord_11 rfl ?_
  refine jj_iload_n C dX11_printWord_12 rfl ?_
  refine jq_callVs (rest := [.ref h0]) C (ct_J0_charAt_5068e_15 hl D cA ak) [] [0, 1] rfl rfl (by decide) (by decide) (by decide) 33 (by decide) rfl jw_948 jw_915 jw_916 jw_715 jw_913 jn_J0_charAt_5068e rfl (jj_le rfl) (jj_le rfl) (jj_le rfl) (jj_le rfl) (jj_le rfl) dX11_printWord_13 rfl (fun _ _ hX => hX.elim) (fun w1 r O_10 => ?_)
  obtain ⟨rfl, rfl⟩ := O_10
  refine jj_apd rfl ?_
  refine jq_callV (rest := []) C (ct_X11_print_2 hl D cA ak h0 h1 h2 h3 h4 h5 h6 h7 h8 h9 h10 h11 h12) [0, 1] [] rfl rfl (by decide) (by decide) (by decide) 0 rfl rfl rfl jw_950 jw_951 jw_952 jw_224 jw_949 jn_X11_print rfl (jj_le rfl) (jj_le rfl) (jj_le rfl) (jj_le rfl) (jj_le rfl) dX11_printWord_16 rfl (fun _ _ hX => hX.elim) (fun w1 r O_12 => ?_)
  obtain ⟨rfl, rfl⟩ := O_12
  refine jj_apd rfl ?_
  refine jj_iinc (v := 2) C dX11_printWord_19 rfl (by decide) (by decide) rfl ?_
  refine jj_goto (tgt := 2) C dX11_printWord_22 (by decide) ?_
  refine jj_iload_n C dX11_printWord_2 rfl ?_
  refine jj_aload_n C dX11_printWord_3 rfl ?_
  refine jq_callVs (rest := [.int 2]) C (ct_J0_length_8abf5_9 hl D cA ak) [] [0, 1] rfl rfl (by decide) (by decide) (by decide) 33 (by decide) rfl jw_720 jw_721 jw_722 jw_715 jw_719 jn_J0_length_8abf5 rfl (jj_le rfl) (jj_le rfl) (jj_le rfl) (jj_le rfl) (jj_le rfl) dX11_printWord_4 rfl (fun _ _ hX => hX.elim) (fun w1 r O_14 => ?_)
  obtain ⟨rfl, rfl⟩ := O_14
  refine jj_apd rfl ?_
  refine jj_icmp_geF (tgt := 25) C dX11_printWord_7 (by decide) (by decide) ?_
  refine jj_aload_n C dX11_printWord_10 rfl ?_
  refine jj_aload_n C dX11_printWord_11 rfl ?_
  refine jj_iload_n C dX11_printWord_12 rfl ?_
  refine jq_callVs (rest := [.ref h0]) C (ct_J0_charAt_5068e_16 hl D cA ak) [] [0, 1] rfl rfl (by decide) (by decide) (by decide) 33 (by decide) rfl jw_948 jw_915 jw_916 jw_715 jw_913 jn_J0_charAt_5068e rfl (jj_le rfl) (jj_le rfl) (jj_le rfl) (jj_le rfl) (jj_le rfl) dX11_printWord_13 rfl (fun _ _ hX => hX.elim) (fun w1 r O_16 => ?_)
  obtain ⟨rfl, rfl⟩ := O_16
  refine jj_apd rfl ?_
  refine jq_callV (rest := []) C (ct_X11_print_3 hl D cA ak h0 h1 h2 h3 h4 h5 h6 h7 h8 h9 h10 h11 h12) [0, 1] [] rfl rfl (by decide) (by decide) (by decide) 0 rfl rfl rfl jw_950 jw_951 jw_952 jw_224 jw_949 jn_X11_print rfl (jj_le rfl) (jj_le rfl) (jj_le rfl) (jj_le rfl) (jj_le rfl) dX11_printWord_16 rfl (fun _ _ hX => hX.elim) (fun w1 r O_18 => ?_)
  obtain ⟨rfl, rfl⟩ := O_18
  refine jj_apd rfl ?_
  refine jj_iinc (v := 3) C dX11_printWord_19 rfl (by decide) (by decide) rfl ?_
  refine jj_goto (tgt := 2) C dX11_printWord_22 (by decide) ?_
  refine jj_iload_n C dX11_printWord_2 rfl ?_
  refine jj_aload_n C dX11_printWord_3 rfl ?_
  refine jq_callVs (rest := [.int 3]) C (ct_J0_length_8abf5_9 hl D cA ak) [] [0, 1] rfl rfl (by decide) (by decide) (by decide) 33 (by decide) rfl jw_720 jw_721 jw_722 jw_715 jw_719 jn_J0_length_8abf5 rfl (jj_le rfl) (jj_le rfl) (jj_le rfl) (jj_le rfl) (jj_le rfl) dX11_printWord_4 rfl (fun _ _ hX => hX.elim) (fun w1 r O_20 => ?_)
  obtain ⟨rfl, rfl⟩ := O_20
  refine jj_apd rfl ?_
  refine jj_icmp_geF (tgt := 25) C dX11_printWord_7 (by decide) (by decide) ?_
  refine jj_aload_n C dX11_printWord_10 rfl ?_
  refine jj_aload_n C dX11_printWord_11 rfl ?_
  refine jj_iload_n C dX11_printWord_12 rfl ?_
  refine jq_callVs (rest := [.ref h0]) C (ct_J0_charAt_5068e_17 hl D cA ak) [] [0, 1] rfl rfl (by decide) (by decide) (by decide) 33 (by decide) rfl jw_948 jw_915 jw_916 jw_715 jw_913 jn_J0_charAt_5068e rfl (jj_le rfl) (jj_le rfl) (jj_le rfl) (jj_le rfl) (jj_le rfl) dX11_printWord_13 rfl (fun _ _ hX => hX.elim) (fun w1 r O_22 => ?_)
  obtain ⟨rfl, rfl⟩ := O_22
  refine jj_apd rfl ?_
  refine jq_callV (rest := []) C (ct_X11_print_4 hl D cA ak h0 h1 h2 h3 h4 h5 h6 h7 h8 h9 h10 h11 h12) [0, 1] [] rfl rfl (by decide) (by decide) (by decide) 0 rfl rfl rfl jw_950 jw_951 jw_952 jw_224 jw_949 jn_X11_print rfl (jj_le rfl) (jj_le rfl) (jj_le rfl) (jj_le rfl) (jj_le rfl) dX11_printWord_16 rfl (fun _ _ hX => hX.elim) (fun w1 r O_24 => ?_)
  obtain ⟨rfl, rfl⟩ := O_24
  refine jj_apd rfl ?_
  refine jj_iinc (v := 4) C dX11_printWord_19 rfl (by decide) (by decide) rfl ?_
  refine jj_goto (tgt := 2) C dX11_printWord_22 (by decide) ?_
  refine jj_iload_n C dX11_printWord_2 rfl ?_
  refine jj_aload_n C dX11_printWord_3 rfl ?_
  refine jq_callVs (rest := [.int 4]) C (ct_J0_length_8abf5_9 hl D cA ak) [] [0, 1] rfl rfl (by decide) (by decide) (by decide) 33 (by decide) rfl jw_720 jw_721 jw_722 jw_715 jw_719 jn_J0_length_8abf5 rfl (jj_le rfl) (jj_le rfl) (jj_le rfl) (jj_le rfl) (jj_le rfl) dX11_printWord_4 rfl (fun _ _ hX => hX.elim) (fun w1 r O_26 => ?_)
  obtain ⟨rfl, rfl⟩ := O_26
  refine jj_apd rfl ?_
  refine jj_icmp_geT (tgt := 25) C dX11_printWord_7 (by decide) (by decide) ?_
  exact jj_vret C ⟨rfl, rfl⟩ dX11_printWord_25 (jj_le rfl) (jj_le rfl)


set_option maxHeartbeats 4000000 in
set_option maxRecDepth 100000 in
theorem ct_X11_print_5 {l : Launch} (hl : l.stackTraces = false) (D : va_G) (cA : Nat → ClassId) (ak : (Nat → Nat) × (Nat → Nat)) (h0 h1 h2 h3 h4 h5 h6 h7 h8 h9 h10 h11 h12 : Nat) : jj_M l D cA ak yX11_print (.code yX11_print cX11_print 2 none) 0 0 0 0 [(h0, .inr (12, [.ref h2, .ref h3, .ref h4, .ref h5, .ref h6, .ref h7, .int 0, .int 0, .long 0, .long 0, .ref h8, .ref h9, .ref h10, .int 0, .int 0, .int 0, .int 0, .int 0, .int (-1), .int 0, .int 0, .ref h11, .ref h12, .ref h1, .int 4])), (h1, .inl (cA 0, 2400, .inl (upd (upd (upd (upd (fun _ => 0) 0 100) 1 97) 2 121) 3 32)))] [.ref h0, .int 48] (fun (w : va_W) (r : Option Value) => (w = [(h0, .inr (12, [.ref h2, .ref h3, .ref h4, .ref h5, .ref h6, .ref h7, .int 0, .int 0, .long 0, .long 0, .ref h8, .ref h9, .ref h10, .int 0, .int 0, .int 0, .int 0, .int 0, .int (-1), .int 0, .int 0, .ref h11, .ref h12, .ref h1, .int 5])), (h1, .inl (cA 0, 2400, .inl (upd (upd (upd (upd (upd (fun _ => 0) 0 100) 1 97) 2 121) 3 32) 4 48)))] ∧ r = none)) jj_noX := by
  refine jj_start hl (by decide) jw_949 (jj_le rfl) ?_
  intro p e s m args below meth c A hargs hA C hex hmn
  refine jj_aload_n C dX11_print_0 rfl ?_
  refine jj_get C jk_12 23 (by decide) jw_220 0 rfl rfl dX11_print_1 ?_
  refine jj_aload_n C dX11_print_4 rfl ?_
  refine jj_get C jk_12 24 (by decide) jw_625 0 rfl rfl dX11_print_5 ?_
  refine jj_iload_n C dX11_print_8 rfl ?_
  refine jj_i2b (v := 48) C dX11_print_9 (by decide) ?_
  refine jj_bast C 1 rfl (vp_in_iff.mpr (by decide)) (g := (upd (upd (upd (upd (upd (fun _ => 0) 0 100) 1 97) 2 121) 3 32) 4 48)) rfl rfl dX11_print_10 ?_
  refine jj_aload_n C dX11_print_11 rfl ?_
  refine jj_dup C dX11_print_12 rfl ?_
  refine jj_get C jk_12 24 (by decide) jw_625 0 rfl rfl dX11_print_13 ?_
  refine jj_iconst (v := 1) C dX11_print_16 (by decide) ?_
  refine jj_iadd (v := 5) C dX11_print_17 (by decide) ?_
  refine jj_put C jk_12 24 (by decide) jw_625 rfl 0 rfl rfl rfl rfl rfl dX11_print_18 ?_
  exact jj_vret C ⟨rfl, rfl⟩ dX11_print_21 (jj_le rfl) (jj_le rfl)


set_option maxHeartbeats 4000000 in
set_option maxRecDepth 100000 in
theorem ct_X11_printNumber_1 {l : Launch} (hl : l.stackTraces = false) (D : va_G) (cA : Nat → ClassId) (ak : (Nat → Nat) × (Nat → Nat)) (h0 h1 h2 h3 h4 h5 h6 h7 h8 h9 h10 h11 h12 : Nat) : jj_M l D cA ak yX11_printNumber (.code yX11_printNumber cX11_printNumber 3 none) 1 21 0 0 [(h0, .inr (12, [.ref h2, .ref h3, .ref h4, .ref h5, .ref h6, .ref h7, .int 0, .int 0, .long 0, .long 0, .ref h8, .ref h9, .ref h10, .int 0, .int 0, .int 0, .int 0, .int 0, .int (-1), .int 0, .int 0, .ref h11, .ref h12, .ref h1, .int 4])), (h1, .inl (cA 0, 2400, .inl (upd (upd (upd (upd (fun _ => 0) 0 100) 1 97) 2 121) 3 32)))] [.ref h0, .long 0] (fun (w : va_W) (r : Option Value) => (w = [(h0, .inr (12, [.ref h2, .ref h3, .ref h4, .ref h5, .ref h6, .ref h7, .int 0, .int 0, .long 0, .long 0, .ref h8, .ref h9, .ref h10, .int 0, .int 0, .int 0, .int 0, .int 0, .int (-1), .int 0, .int 0, .ref h11, .ref h12, .ref h1, .int 5])), (h1, .inl (cA 0, 2400, .inl (upd (upd (upd (upd (upd (fun _ => 0) 0 100) 1 97) 2 121) 3 32) 4 48)))] ∧ r = none)) jj_noX := by
  refine jj_start hl (by decide) jw_960 (jj_le rfl) ?_
  intro p e s m args below meth c A hargs hA C hex hmn
  refine jj_lload_n C dX11_printNumber_0 rfl ?_
  refine jj_ldc2 (v := 9) C dX11_printNumber_1 jw_481 ?_
  refine jj_lcmp_leT (tgt := 17) C dX11_printNumber_4 dX11_printNumber_5 (by decide) (by decide) ?_
  refine jj_aload_n C dX11_printNumber_17 rfl ?_
  refine jj_ldc2 (v := 48) C dX11_printNumber_18 jw_698 ?_
  refine jj_lload_n C dX11_printNumber_21 rfl ?_
  refine jj_ldc2 (v := 10) C dX11_printNumber_22 jw_959 ?_
  refine jj_lrem (v := 0) C dX11_printNumber_25 (by decide) (by decide) ?_
  refine jj_ladd (v := 48) C dX11_printNumber_26 (by decide) ?_
  refine jj_l2i (v := 48) C dX11_printNumber_27 (by decide) ?_
  refine jj_i2c (v := 48) C dX11_printNumber_28 (by decide) ?_
  refine jq_callV (rest := []) C (ct_X11_print_5 hl D cA ak h0 h1 h2 h3 h4 h5 h6 h7 h8 h9 h10 h11 h12) [0, 1] [] rfl rfl (by decide) (by decide) (by decide) 0 rfl rfl rfl jw_950 jw_951 jw_952 jw_224 jw_949 jn_X11_print rfl (jj_le rfl) (jj_le rfl) (jj_le rfl) (jj_le rfl) (jj_le rfl) dX11_printNumber_29 rfl (fun _ _ hX => hX.elim) (fun w1 r O_2 => ?_)
  obtain ⟨rfl, rfl⟩ := O_2
  refine jj_apd rfl ?_
  exact jj_vret C ⟨rfl, rfl⟩ dX11_printNumber_32 (jj_le rfl) (jj_le rfl)


set_option maxHeartbeats 4000000 in
set_option maxRecDepth 100000 in
theorem ct_J0_coder_7d493_10 {l : Launch} (hl : l.stackTraces = false) (D : va_G) (cA : Nat → ClassId) (ak : (Nat → Nat) × (Nat → Nat)) : jj_M l D cA ak yJ0_coder_7d493 (.code yJ0_coder_7d493 cJ0_coder_7d493 1 (some .byte)) 0 0 0 0 [] [.ref (ak.1 34)] (fun (w : va_W) (r : Option Value) => (w = [] ∧ r = some (.int 0))) jj_noX := by
  refine jj_start hl (by decide) jw_713 (jj_le rfl) ?_
  intro p e s m args below meth c A hargs hA C hex hmn
  refine jj_gcs C jw_711 dJ0_coder_7d493_0 ?_
  refine jj_if_eqF (tgt := 13) C dJ0_coder_7d493_3 (by decide) (by decide) ?_
  refine jj_aload_n C dJ0_coder_7d493_6 rfl ?_
  refine jj_scod (k := 34) C (by decide) jw_712 dJ0_coder_7d493_7 ?_
  refine jj_goto (tgt := 14) C dJ0_coder_7d493_10 (by decide) ?_
  exact jj_zret C rfl ⟨rfl, rfl⟩ dJ0_coder_7d493_14 (jj_le rfl) (jj_le rfl)


set_option maxHeartbeats 4000000 in
set_option maxRecDepth 100000 in
theorem ct_J0_length_8abf5_10 {l : Launch} (hl : l.stackTraces = false) (D : va_G) (cA : Nat → ClassId) (ak : (Nat → Nat) × (Nat → Nat)) : jj_M l D cA ak yJ0_length_8abf5 (.code yJ0_length_8abf5 cJ0_length_8abf5 1 (some .int)) 1 20 0 0 [] [.ref (ak.1 34)] (fun (w : va_W) (r : Option Value) => (w = [] ∧ r = some (.int 8))) jj_noX := by
  refine jj_start hl (by decide) jw_719 (jj_le rfl) ?_
  intro p e s m args below meth c A hargs hA C hex hmn
  refine jj_aload_n C dJ0_length_8abf5_0 rfl ?_
  refine jj_sval (k := 34) C (by decide) jw_710 dJ0_length_8abf5_1 ?_
  refine jj_slen (k := 34) (v := 8) C (by decide) (by decide) dJ0_length_8abf5_4 ?_
  refine jj_aload_n C dJ0_length_8abf5_5 rfl ?_
  refine jq_callVs (rest := [.int 8]) C (ct_J0_coder_7d493_10 hl D cA ak) [] [] rfl rfl (by decide) (by decide) (by decide) 34 (by decide) rfl jw_714 jw_716 jw_717 jw_715 jw_713 jn_J0_coder_7d493 rfl (jj_le rfl) (jj_le rfl) (jj_le rfl) (jj_le rfl) (jj_le rfl) dJ0_length_8abf5_6 rfl (fun _ _ hX => hX.elim) (fun w1 r O_2 => ?_)
  obtain ⟨rfl, rfl⟩ := O_2
  refine jj_apd rfl ?_
  refine jj_ishr (v := 8) C dJ0_length_8abf5_9 (by decide) ?_
  exact jj_iret C ⟨rfl, rfl⟩ dJ0_length_8abf5_10 (jj_le rfl) (jj_le rfl)


set_option maxHeartbeats 4000000 in
set_option maxRecDepth 100000 in
theorem ct_J0_isLatin1_aae02_5 {l : Launch} (hl : l.stackTraces = false) (D : va_G) (cA : Nat → ClassId) (ak : (Nat → Nat) × (Nat → Nat)) : jj_M l D cA ak yJ0_isLatin1_aae02 (.code yJ0_isLatin1_aae02 cJ0_isLatin1_aae02 1 (some .boolean)) 0 0 0 0 [] [.ref (ak.1 34)] (fun (w : va_W) (r : Option Value) => (w = [] ∧ r = some (.int 1))) jj_noX := by
  refine jj_start hl (by decide) jw_893 (jj_le rfl) ?_
  intro p e s m args below meth c A hargs hA C hex hmn
  refine jj_gcs C jw_711 dJ0_isLatin1_aae02_0 ?_
  refine jj_if_eqF (tgt := 17) C dJ0_isLatin1_aae02_3 (by decide) (by decide) ?_
  refine jj_aload_n C dJ0_isLatin1_aae02_6 rfl ?_
  refine jj_scod (k := 34) C (by decide) jw_712 dJ0_isLatin1_aae02_7 ?_
  refine jj_if_neF (tgt := 17) C dJ0_isLatin1_aae02_10 (by decide) (by decide) ?_
  refine jj_iconst (v := 1) C dJ0_isLatin1_aae02_13 (by decide) ?_
  refine jj_goto (tgt := 18) C dJ0_isLatin1_aae02_14 (by decide) ?_
  exact jj_zret C rfl ⟨rfl, rfl⟩ dJ0_isLatin1_aae02_18 (jj_le rfl) (jj_le rfl)


set_option maxHeartbeats 4000000 in
set_option maxRecDepth 100000 in
theorem ct_J1_charAt_3b067_18 {l : Launch} (hl : l.stackTraces = false) (D : va_G) (cA : Nat → ClassId) (ak : (Nat → Nat) × (Nat → Nat)) : jj_M l D cA ak yJ1_charAt_3b067 (.code yJ1_charAt_3b067 cJ1_charAt_3b067 2 (some .char)) 2 43 0 0 [] [.ref (ak.2 34), .int 0] (fun (w : va_W) (r : Option Value) => (w = [] ∧ r = some (.int 32))) jj_noX := by
  refine jj_start hl (by decide) jw_908 (jj_le rfl) ?_
  intro p e s m args below meth c A hargs hA C hex hmn
  refine jj_iload_n C dJ1_charAt_3b067_0 rfl ?_
  refine jj_aload_n C dJ1_charAt_3b067_1 rfl ?_
  refine jj_slen (k := 34) (v := 8) C (by decide) (by decide) dJ1_charAt_3b067_2 ?_
  refine jq_callS (rest := []) C (ct_J0_checkIndex_df160_5 hl D cA ak) [] [] rfl rfl (by decide) (by decide) (by decide) jw_905 jw_906 jw_715 jw_904 jn_J0_checkIndex_df160 rfl (jj_le rfl) (jj_le rfl) (jj_le rfl) (jj_le rfl) (jj_le rfl) dJ1_charAt_3b067_3 rfl (fun _ _ hX => hX.elim) (fun w1 r O_2 => ?_)
  obtain ⟨rfl, rfl⟩ := O_2
  refine jj_apd rfl ?_
  refine jj_aload_n C dJ1_charAt_3b067_6 rfl ?_
  refine jj_iload_n C dJ1_charAt_3b067_7 rfl ?_
  refine jj_sbyt (k := 34) (v := 32) C (by decide) (vp_in_iff.mpr (by decide)) (by decide) dJ1_charAt_3b067_8 ?_
  refine jj_sipush (v := 255) C dJ1_charAt_3b067_9 (by decide) ?_
  refine jj_iand (v := 32) C dJ1_charAt_3b067_12 (by decide) ?_
  refine jj_i2c (v := 32) C dJ1_charAt_3b067_13 (by decide) ?_
  exact jj_zret C rfl ⟨rfl, rfl⟩ dJ1_charAt_3b067_14 (jj_le rfl) (jj_le rfl)


set_option maxHeartbeats 4000000 in
set_option maxRecDepth 100000 in
theorem ct_J0_charAt_5068e_18 {l : Launch} (hl : l.stackTraces = false) (D : va_G) (cA : Nat → ClassId) (ak : (Nat → Nat) × (Nat → Nat)) : jj_M l D cA ak yJ0_charAt_5068e (.code yJ0_charAt_5068e cJ0_charAt_5068e 2 (some .char)) 3 64 0 0 [] [.ref (ak.1 34), .int 0] (fun (w : va_W) (r : Option Value) => (w = [] ∧ r = some (.int 32))) jj_noX := by
  refine jj_start hl (by decide) jw_913 (jj_le rfl) ?_
  intro p e s m args below meth c A hargs hA C hex hmn
  refine jj_aload_n C dJ0_charAt_5068e_0 rfl ?_
  refine jq_callVs (rest := []) C (ct_J0_isLatin1_aae02_5 hl D cA ak) [] [] rfl rfl (by decide) (by decide) (by decide) 34 (by decide) rfl jw_894 jw_895 jw_896 jw_715 jw_893 jn_J0_isLatin1_aae02 rfl (jj_le rfl) (jj_le rfl) (jj_le rfl) (jj_le rfl) (jj_le rfl) dJ0_charAt_5068e_1 rfl (fun _ _ hX => hX.elim) (fun w1 r O_2 => ?_)
  obtain ⟨rfl, rfl⟩ := O_2
  refine jj_apd rfl ?_
  refine jj_if_eqF (tgt := 16) C dJ0_charAt_5068e_4 (by decide) (by decide) ?_
  refine jj_aload_n C dJ0_charAt_5068e_7 rfl ?_
  refine jj_sval (k := 34) C (by decide) jw_710 dJ0_charAt_5068e_8 ?_
  refine jj_iload_n C dJ0_charAt_5068e_11 rfl ?_
  refine jq_callS (rest := []) C (ct_J1_charAt_3b067_18 hl D cA ak) [] [] rfl rfl (by decide) (by decide) (by decide) jw_909 jw_911 jw_910 jw_908 jn_J1_charAt_3b067 rfl (jj_le rfl) (jj_le rfl) (jj_le rfl) (jj_le rfl) (jj_le rfl) dJ0_charAt_5068e_12 rfl (fun _ _ hX => hX.elim) (fun w1 r O_4 => ?_)
  obtain ⟨rfl, rfl⟩ := O_4
  refine jj_apd rfl ?_
  exact jj_zret C rfl ⟨rfl, rfl⟩ dJ0_charAt_5068e_15 (jj_le rfl) (jj_le rfl)


set_option maxHeartbeats 4000000 in
set_option maxRecDepth 100000 in
theorem ct_X11_print_6 {l : Launch} (hl : l.stackTraces = false) (D : va_G) (cA : Nat → ClassId) (ak : (Nat → Nat) × (Nat → Nat)) (h0 h1 h2 h3 h4 h5 h6 h7 h8 h9 h10 h11 h12 : Nat) : jj_M l D cA ak yX11_print (.code yX11_print cX11_print 2 none) 0 0 0 0 [(h0, .inr (12, [.ref h2, .ref h3, .ref h4, .ref h5, .ref h6, .ref h7, .int 0, .int 0, .long 0, .long 0, .ref h8, .ref h9, .ref h10, .int 0, .int 0, .int 0, .int 0, .int 0, .int (-1), .int 0, .int 0, .ref h11, .ref h12, .ref h1, .int 5])), (h1, .inl (cA 0, 2400, .inl (upd (upd (upd (upd (upd (fun _ => 0) 0 100) 1 97) 2 121) 3 32) 4 48)))] [.ref h0, .int 32] (fun (w : va_W) (r : Option Value) => (w = [(h0, .inr (12, [.ref h2, .ref h3, .ref h4, .ref h5, .ref h6, .ref h7, .int 0, .int 0, .long 0, .long 0, .ref h8, .ref h9, .ref h10, .int 0, .int 0, .int 0, .int 0, .int 0, .int (-1), .int 0, .int 0, .ref h11, .ref h12, .ref h1, .int 6])), (h1, .inl (cA 0, 2400, .inl (upd (upd (upd (upd (upd (upd (fun _ => 0) 0 100) 1 97) 2 121) 3 32) 4 48) 5 32)))] ∧ r = none)) jj_noX := by
  refine jj_start hl (by decide) jw_949 (jj_le rfl) ?_
  intro p e s m args below meth c A hargs hA C hex hmn
  refine jj_aload_n C dX11_print_0 rfl ?_
  refine jj_get C jk_12 23 (by decide) jw_220 0 rfl rfl dX11_print_1 ?_
  refine jj_aload_n C dX11_print_4 rfl ?_
  refine jj_get C jk_12 24 (by decide) jw_625 0 rfl rfl dX11_print_5 ?_
  refine jj_iload_n C dX11_print_8 rfl ?_
  refine jj_i2b (v := 32) C dX11_print_9 (by decide) ?_
  refine jj_bast C 1 rfl (vp_in_iff.mpr (by decide)) (g := (upd (upd (upd (upd (upd (upd (fun _ => 0) 0 100) 1 97) 2 121) 3 32) 4 48) 5 32)) rfl rfl dX11_print_10 ?_
  refine jj_aload_n C dX11_print_11 rfl ?_
  refine jj_dup C dX11_print_12 rfl ?_
  refine jj_get C jk_12 24 (by decide) jw_625 0 rfl rfl dX11_print_13 ?_
  refine jj_iconst (v := 1) C dX11_print_16 (by decide) ?_
  refine jj_iadd (v := 6) C dX11_print_17 (by decide) ?_
  refine jj_put C jk_12 24 (by decide) jw_625 rfl 0 rfl rfl rfl rfl rfl dX11_print_18 ?_
  exact jj_vret C ⟨rfl, rfl⟩ dX11_print_21 (jj_le rfl) (jj_le rfl)


set_option maxHeartbeats 4000000 in
set_option maxRecDepth 100000 in
theorem ct_J1_charAt_3b067_19 {l : Launch} (hl : l.stackTraces = false) (D : va_G) (cA : Nat → ClassId) (ak : (Nat → Nat) × (Nat → Nat)) : jj_M l D cA ak yJ1_charAt_3b067 (.code yJ1_charAt_3b067 cJ1_charAt_3b067 2 (some .char)) 2 43 0 0 [] [.ref (ak.2 34), .int 1] (fun (w : va_W) (r : Option Value) => (w = [] ∧ r = some (.int 97))) jj_noX := by
  refine jj_start hl (by decide) jw_908 (jj_le rfl) ?_
  intro p e s m args below meth c A hargs hA C hex hmn
  refine jj_iload_n C dJ1_charAt_3b067_0 rfl ?_
  refine jj_aload_n C dJ1_charAt_3b067_1 rfl ?_
  refine jj_slen (k := 34) (v := 8) C (by decide) (by decide) dJ1_charAt_3b067_2 ?_
  refine jq_callS (rest := []) C (ct_J0_checkIndex_df160_6 hl D cA ak) [] [] rfl rfl (by decide) (by decide) (by decide) jw_905 jw_906 jw_715 jw_904 jn_J0_checkIndex_df160 rfl (jj_le rfl) (jj_le rfl) (jj_le rfl) (jj_le rfl) (jj_le rfl) dJ1_charAt_3b067_3 rfl (fun _ _ hX => hX.elim) (fun w1 r O_2 => ?_)
  obtain ⟨rfl, rfl⟩ := O_2
  refine jj_apd rfl ?_
  refine jj_aload_n C dJ1_charAt_3b067_6 rfl ?_
  refine jj_iload_n C dJ1_charAt_3b067_7 rfl ?_
  refine jj_sbyt (k := 34) (v := 97) C (by decide) (vp_in_iff.mpr (by decide)) (by decide) dJ1_charAt_3b067_8 ?_
  refine jj_sipush (v := 255) C dJ1_charAt_3b067_9 (by decide) ?_
  refine jj_iand (v := 97) C dJ1_charAt_3b067_12 (by decide) ?_
  refine jj_i2c (v := 97) C dJ1_charAt_3b067_13 (by decide) ?_
  exact jj_zret C rfl ⟨rfl, rfl⟩ dJ1_charAt_3b067_14 (jj_le rfl) (jj_le rfl)


set_option maxHeartbeats 4000000 in
set_option maxRecDepth 100000 in
theorem ct_J0_charAt_5068e_19 {l : Launch} (hl : l.stackTraces = false) (D : va_G) (cA : Nat → ClassId) (ak : (Nat → Nat) × (Nat → Nat)) : jj_M l D cA ak yJ0_charAt_5068e (.code yJ0_charAt_5068e cJ0_charAt_5068e 2 (some .char)) 3 64 0 0 [] [.ref (ak.1 34), .int 1] (fun (w : va_W) (r : Option Value) => (w = [] ∧ r = some (.int 97))) jj_noX := by
  refine jj_start hl (by decide) jw_913 (jj_le rfl) ?_
  intro p e s m args below meth c A hargs hA C hex hmn
  refine jj_aload_n C dJ0_charAt_5068e_0 rfl ?_
  refine jq_callVs (rest := []) C (ct_J0_isLatin1_aae02_5 hl D cA ak) [] [] rfl rfl (by decide) (by decide) (by decide) 34 (by decide) rfl jw_894 jw_895 jw_896 jw_715 jw_893 jn_J0_isLatin1_aae02 rfl (jj_le rfl) (jj_le rfl) (jj_le rfl) (jj_le rfl) (jj_le rfl) dJ0_charAt_5068e_1 rfl (fun _ _ hX => hX.elim) (fun w1 r O_2 => ?_)
  obtain ⟨rfl, rfl⟩ := O_2
  refine jj_apd rfl ?_
  refine jj_if_eqF (tgt := 16) C dJ0_charAt_5068e_4 (by decide) (by decide) ?_
  refine jj_aload_n C dJ0_charAt_5068e_7 rfl ?_
  refine jj_sval (k := 34) C (by decide) jw_710 dJ0_charAt_5068e_8 ?_
  refine jj_iload_n C dJ0_charAt_5068e_11 rfl ?_
  refine jq_callS (rest := []) C (ct_J1_charAt_3b067_19 hl D cA ak) [] [] rfl rfl (by decide) (by decide) (by decide) jw_909 jw_911 jw_910 jw_908 jn_J1_charAt_3b067 rfl (jj_le rfl) (jj_le rfl) (jj_le rfl) (jj_le rfl) (jj_le rfl) dJ0_charAt_5068e_12 rfl (fun _ _ hX => hX.elim) (fun w1 r O_4 => ?_)
  obtain ⟨rfl, rfl⟩ := O_4
  refine jj_apd rfl ?_
  exact jj_zret C rfl ⟨rfl, rfl⟩ dJ0_charAt_5068e_15 (jj_le rfl) (jj_le rfl)


set_option maxHeartbeats 4000000 in
set_option maxRecDepth 100000 in
theorem ct_X11_print_7 {l : Launch} (hl : l.stackTraces = false) (D : va_G) (cA : Nat → ClassId) (ak : (Nat → Nat) × (Nat → Nat)) (h0 h1 h2 h3 h4 h5 h6 h7 h8 h9 h10 h11 h12 : Nat) : jj_M l D cA ak yX11_print (.code yX11_print cX11_print 2 none) 0 0 0 0 [(h0, .inr (12, [.ref h2, .ref h3, .ref h4, .ref h5, .ref h6, .ref h7, .int 0, .int 0, .long 0, .long 0, .ref h8, .ref h9, .ref h10, .int 0, .int 0, .int 0, .int 0, .int 0, .int (-1), .int 0, .int 0, .ref h11, .ref h12, .ref h1, .int 6])), (h1, .inl (cA 0, 2400, .inl (upd (upd (upd (upd (upd (upd (fun _ => 0) 0 100) 1 97) 2 121) 3 32) 4 48) 5 32)))] [.ref h0, .int 97] (fun (w : va_W) (r : Option Value) => (w = [(h0, .inr (12, [.ref h2, .ref h3, .ref h4, .ref h5, .ref h6, .ref h7, .int 0, .int 0, .long 0, .long 0, .ref h8, .ref h9, .ref h10, .int 0, .int 0, .int 0, .int 0, .int 0, .int (-1), .int 0, .int 0, .ref h11, .ref h12, .ref h1, .int 7])), (h1, .inl (cA 0, 2400, .inl (upd (upd (upd (upd (upd (upd (upd (fun _ => 0) 0 100) 1 97) 2 121) 3 32) 4 48) 5 32) 6 97)))] ∧ r = none)) jj_noX := by
  refine jj_start hl (by decide) jw_949 (jj_le rfl) ?_
  intro p e s m args below meth c A hargs hA C hex hmn
  refine jj_aload_n C dX11_print_0 rfl ?_
  refine jj_get C jk_12 23 (by decide) jw_220 0 rfl rfl dX11_print_1 ?_
  refine jj_aload_n C dX11_print_4 rfl ?_
  refine jj_get C jk_12 24 (by decide) jw_625 0 rfl rfl dX11_print_5 ?_
  refine jj_iload_n C dX11_print_8 rfl ?_
  refine jj_i2b (v := 97) C dX11_print_9 (by decide) ?_
  refine jj_bast C 1 rfl (vp_in_iff.mpr (by decide)) (g := (upd (upd (upd (upd (upd (upd (upd (fun _ => 0) 0 100) 1 97) 2 121) 3 32) 4 48) 5 32) 6 97)) rfl rfl dX11_print_10 ?_
  refine jj_aload_n C dX11_print_11 rfl ?_
  refine jj_dup C dX11_print_12 rfl ?_
  refine jj_get C jk_12 24 (by decide) jw_625 0 rfl rfl dX11_print_13 ?_
  refine jj_iconst (v := 1) C dX11_print_16 (by decide) ?_
  refine jj_iadd (v := 7) C dX11_print_17 (by decide) ?_
  refine jj_put C jk_12 24 (by decide) jw_625 rfl 0 rfl rfl rfl rfl rfl dX11_print_18 ?_
  exact jj_vret C ⟨rfl, rfl⟩ dX11_print_21 (jj_le rfl) (jj_le rfl)


set_option maxHeartbeats 4000000 in
set_option maxRecDepth 100000 in
theorem ct_J1_charAt_3b067_20 {l : Launch} (hl : l.stackTraces = false) (D : va_G) (cA : Nat → ClassId) (ak : (Nat → Nat) × (Nat → Nat)) : jj_M l D cA ak yJ1_charAt_3b067 (.code yJ1_charAt_3b067 cJ1_charAt_3b067 2 (some .char)) 2 43 0 0 [] [.ref (ak.2 34), .int 2] (fun (w : va_W) (r : Option Value) => (w = [] ∧ r = some (.int 115))) jj_noX := by
  refine jj_start hl (by decide) jw_908 (jj_le rfl) ?_
  intro p e s m args below meth c A hargs hA C hex hmn
  refine jj_iload_n C dJ1_charAt_3b067_0 rfl ?_
  refine jj_aload_n C dJ1_charAt_3b067_1 rfl ?_
  refine jj_slen (k := 34) (v := 8) C (by decide) (by decide) dJ1_charAt_3b067_2 ?_
  refine jq_callS (rest := []) C (ct_J0_checkIndex_df160_7 hl D cA ak) [] [] rfl rfl (by decide) (by decide) (by decide) jw_905 jw_906 jw_715 jw_904 jn_J0_checkIndex_df160 rfl (jj_le rfl) (jj_le rfl) (jj_le rfl) (jj_le rfl) (jj_le rfl) dJ1_charAt_3b067_3 rfl (fun _ _ hX => hX.elim) (fun w1 r O_2 => ?_)
  obtain ⟨rfl, rfl⟩ := O_2
  refine jj_apd rfl ?_
  refine jj_aload_n C dJ1_charAt_3b067_6 rfl ?_
  refine jj_iload_n C dJ1_charAt_3b067_7 rfl ?_
  refine jj_sbyt (k := 34) (v := 115) C (by decide) (vp_in_iff.mpr (by decide)) (by decide) dJ1_charAt_3b067_8 ?_
  refine jj_sipush (v := 255) C dJ1_charAt_3b067_9 (by decide) ?_
  refine jj_iand (v := 115) C dJ1_charAt_3b067_12 (by decide) ?_
  refine jj_i2c (v := 115) C dJ1_charAt_3b067_13 (by decide) ?_
  exact jj_zret C rfl ⟨rfl, rfl⟩ dJ1_charAt_3b067_14 (jj_le rfl) (jj_le rfl)


