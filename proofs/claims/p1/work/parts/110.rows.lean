set_option maxHeartbeats 4000000 in
set_option maxRecDepth 100000 in
theorem ct_J0_charAt_5068e_20 {l : Launch} (hl : l.stackTraces = false) (D : va_G) (cA : Nat → ClassId) (ak : (Nat → Nat) × (Nat → Nat)) : jj_M l D cA ak yJ0_charAt_5068e (.code yJ0_charAt_5068e cJ0_charAt_5068e 2 (some .char)) 3 64 0 0 [] [.ref (ak.1 34), .int 2] (fun (w : va_W) (r : Option Value) => (w = [] ∧ r = some (.int 115))) jj_noX := by
  refine jj_start hl (by decide) jw_913 (jj_le rfl) ?_
  intro p e s m args below meth c A hargs hA C hex hmn
  refine jj_aload_n C dJ0_charAt_5068e_0 rfl ?_
  refine jq_callVs (rest := []) C (ct_J0_isLatin1_aae02_5 hl D cA ak) [] [] rfl rfl (by decide) (by decide) (by decide) 34 (by decide) rfl jw_894 jw_895 jw_896 jw_715 jw_893 jn_J0_isLatin1_aae02 rfl (jj_le rfl) (jj_le rfl) (jj_le rfl) (jj_le rfl) (jj_le rfl) dJ0_charAt_5068e_1 rfl (fun _ _ hX => hX.elim) (fun w1 r O_2 => ?_)
  obtain ⟨rfl, rfl⟩ := O_2
  refine jj_apd rfl ?_
  refine jj_if_eqF (tgt := 16) C dJ0_charAt_5068e_4 (by decide) (by decide) ?_
  refine jj_aload_n C dJ0_charAt_5068e_7 rfl ?_
  refine jj_sval (k := 34) C (by decide) jw_710 dJ0_charAt_5068e_8 ?_
  refine jj_iload_n C dJ0_charAt_5068e_11 rfl ?_
  refine jq_callS (rest := []) C (ct_J1_charAt_3b067_20 hl D cA ak) [] [] rfl rfl (by decide) (by decide) (by decide) jw_909 jw_911 jw_910 jw_908 jn_J1_charAt_3b067 rfl (jj_le rfl) (jj_le rfl) (jj_le rfl) (jj_le rfl) (jj_le rfl) dJ0_charAt_5068e_12 rfl (fun _ _ hX => hX.elim) (fun w1 r O_4 => ?_)
  obtain ⟨rfl, rfl⟩ := O_4
  refine jj_apd rfl ?_
  exact jj_zret C rfl ⟨rfl, rfl⟩ dJ0_charAt_5068e_15 (jj_le rfl) (jj_le rfl)


set_option maxHeartbeats 4000000 in
set_option maxRecDepth 100000 in
theorem ct_X11_print_8 {l : Launch} (hl : l.stackTraces = false) (D : va_G) (cA : Nat → ClassId) (ak : (Nat → Nat) × (Nat → Nat)) (h0 h1 h2 h3 h4 h5 h6 h7 h8 h9 h10 h11 h12 : Nat) : jj_M l D cA ak yX11_print (.code yX11_print cX11_print 2 none) 0 0 0 0 [(h0, .inr (12, [.ref h2, .ref h3, .ref h4, .ref h5, .ref h6, .ref h7, .int 0, .int 0, .long 0, .long 0, .ref h8, .ref h9, .ref h10, .int 0, .int 0, .int 0, .int 0, .int 0, .int (-1), .int 0, .int 0, .ref h11, .ref h12, .ref h1, .int 7])), (h1, .inl (cA 0, 2400, .inl (upd (upd (upd (upd (upd (upd (upd (fun _ => 0) 0 100) 1 97) 2 121) 3 32) 4 48) 5 32) 6 97)))] [.ref h0, .int 115] (fun (w : va_W) (r : Option Value) => (w = [(h0, .inr (12, [.ref h2, .ref h3, .ref h4, .ref h5, .ref h6, .ref h7, .int 0, .int 0, .long 0, .long 0, .ref h8, .ref h9, .ref h10, .int 0, .int 0, .int 0, .int 0, .int 0, .int (-1), .int 0, .int 0, .ref h11, .ref h12, .ref h1, .int 8])), (h1, .inl (cA 0, 2400, .inl (upd (upd (upd (upd (upd (upd (upd (upd (fun _ => 0) 0 100) 1 97) 2 121) 3 32) 4 48) 5 32) 6 97) 7 115)))] ∧ r = none)) jj_noX := by
  refine jj_start hl (by decide) jw_949 (jj_le rfl) ?_
  intro p e s m args below meth c A hargs hA C hex hmn
  refine jj_aload_n C dX11_print_0 rfl ?_
  refine jj_get C jk_12 23 (by decide) jw_220 0 rfl rfl dX11_print_1 ?_
  refine jj_aload_n C dX11_print_4 rfl ?_
  refine jj_get C jk_12 24 (by decide) jw_625 0 rfl rfl dX11_print_5 ?_
  refine jj_iload_n C dX11_print_8 rfl ?_
  refine jj_i2b (v := 115) C dX11_print_9 (by decide) ?_
  refine jj_bast C 1 rfl (vp_in_iff.mpr (by decide)) (g := (upd (upd (upd (upd (upd (upd (upd (upd (fun _ => 0) 0 100) 1 97) 2 121) 3 32) 4 48) 5 32) 6 97) 7 115)) rfl rfl dX11_print_10 ?_
  refine jj_aload_n C dX11_print_11 rfl ?_
  refine jj_dup C dX11_print_12 rfl ?_
  refine jj_get C jk_12 24 (by decide) jw_625 0 rfl rfl dX11_print_13 ?_
  refine jj_iconst (v := 1) C dX11_print_16 (by decide) ?_
  refine jj_iadd (v := 8) C dX11_print_17 (by decide) ?_
  refine jj_put C jk_12 24 (by decide) jw_625 rfl 0 rfl rfl rfl rfl rfl dX11_print_18 ?_
  exact jj_vret C ⟨rfl, rfl⟩ dX11_print_21 (jj_le rfl) (jj_le rfl)


set_option maxHeartbeats 4000000 in
set_option maxRecDepth 100000 in
theorem ct_J1_charAt_3b067_21 {l : Launch} (hl : l.stackTraces = false) (D : va_G) (cA : Nat → ClassId) (ak : (Nat → Nat) × (Nat → Nat)) : jj_M l D cA ak yJ1_charAt_3b067 (.code yJ1_charAt_3b067 cJ1_charAt_3b067 2 (some .char)) 2 43 0 0 [] [.ref (ak.2 34), .int 3] (fun (w : va_W) (r : Option Value) => (w = [] ∧ r = some (.int 115))) jj_noX := by
  refine jj_start hl (by decide) jw_908 (jj_le rfl) ?_
  intro p e s m args below meth c A hargs hA C hex hmn
  refine jj_iload_n C dJ1_charAt_3b067_0 rfl ?_
  refine jj_aload_n C dJ1_charAt_3b067_1 rfl ?_
  refine jj_slen (k := 34) (v := 8) C (by decide) (by decide) dJ1_charAt_3b067_2 ?_
  refine jq_callS (rest := []) C (ct_J0_checkIndex_df160_8 hl D cA ak) [] [] rfl rfl (by decide) (by decide) (by decide) jw_905 jw_906 jw_715 jw_904 jn_J0_checkIndex_df160 rfl (jj_le rfl) (jj_le rfl) (jj_le rfl) (jj_le rfl) (jj_le rfl) dJ1_charAt_3b067_3 rfl (fun _ _ hX => hX.elim) (fun w1 r O_2 => ?_)
  obtain ⟨rfl, rfl⟩ := O_2
  refine jj_apd rfl ?_
  refine jj_aload_n C dJ1_charAt_3b067_6 rfl ?_
  refine jj_iload_n C dJ1_charAt_3b067_7 rfl ?_
  refine jj_sbyt (k := 34) (v := 115) C (by decide) (vp_in_iff.mpr (by decide)) (by decide) dJ1_charAt_3b067_8 ?_
  refine jj_sipush (v := 255) C dJ1_charAt_3b067_9 (by decide) ?_
  refine jj_iand (v := 115) C dJ1_charAt_3b067_12 (by decide) ?_
  refine jj_i2c (v := 115) C dJ1_charAt_3b067_13 (by decide) ?_
  exact jj_zret C rfl ⟨rfl, rfl⟩ dJ1_charAt_3b067_14 (jj_le rfl) (jj_le rfl)


set_option maxHeartbeats 4000000 in
set_option maxRecDepth 100000 in
theorem ct_J0_charAt_5068e_21 {l : Launch} (hl : l.stackTraces = false) (D : va_G) (cA : Nat → ClassId) (ak : (Nat → Nat) × (Nat → Nat)) : jj_M l D cA ak yJ0_charAt_5068e (.code yJ0_charAt_5068e cJ0_charAt_5068e 2 (some .char)) 3 64 0 0 [] [.ref (ak.1 34), .int 3] (fun (w : va_W) (r : Option Value) => (w = [] ∧ r = some (.int 115))) jj_noX := by
  refine jj_start hl (by decide) jw_913 (jj_le rfl) ?_
  intro p e s m args below meth c A hargs hA C hex hmn
  refine jj_aload_n C dJ0_charAt_5068e_0 rfl ?_
  refine jq_callVs (rest := []) C (ct_J0_isLatin1_aae02_5 hl D cA ak) [] [] rfl rfl (by decide) (by decide) (by decide) 34 (by decide) rfl jw_894 jw_895 jw_896 jw_715 jw_893 jn_J0_isLatin1_aae02 rfl (jj_le rfl) (jj_le rfl) (jj_le rfl) (jj_le rfl) (jj_le rfl) dJ0_charAt_5068e_1 rfl (fun _ _ hX => hX.elim) (fun w1 r O_2 => ?_)
  obtain ⟨rfl, rfl⟩ := O_2
  refine jj_apd rfl ?_
  refine jj_if_eqF (tgt := 16) C dJ0_charAt_5068e_4 (by decide) (by decide) ?_
  refine jj_aload_n C dJ0_charAt_5068e_7 rfl ?_
  refine jj_sval (k := 34) C (by decide) jw_710 dJ0_charAt_5068e_8 ?_
  refine jj_iload_n C dJ0_charAt_5068e_11 rfl ?_
  refine jq_callS (rest := []) C (ct_J1_charAt_3b067_21 hl D cA ak) [] [] rfl rfl (by decide) (by decide) (by decide) jw_909 jw_911 jw_910 jw_908 jn_J1_charAt_3b067 rfl (jj_le rfl) (jj_le rfl) (jj_le rfl) (jj_le rfl) (jj_le rfl) dJ0_charAt_5068e_12 rfl (fun _ _ hX => hX.elim) (fun w1 r O_4 => ?_)
  obtain ⟨rfl, rfl⟩ := O_4
  refine jj_apd rfl ?_
  exact jj_zret C rfl ⟨rfl, rfl⟩ dJ0_charAt_5068e_15 (jj_le rfl) (jj_le rfl)


set_option maxHeartbeats 4000000 in
set_option maxRecDepth 100000 in
theorem ct_X11_print_9 {l : Launch} (hl : l.stackTraces = false) (D : va_G) (cA : Nat → ClassId) (ak : (Nat → Nat) × (Nat → Nat)) (h0 h1 h2 h3 h4 h5 h6 h7 h8 h9 h10 h11 h12 : Nat) : jj_M l D cA ak yX11_print (.code yX11_print cX11_print 2 none) 0 0 0 0 [(h0, .inr (12, [.ref h2, .ref h3, .ref h4, .ref h5, .ref h6, .ref h7, .int 0, .int 0, .long 0, .long 0, .ref h8, .ref h9, .ref h10, .int 0, .int 0, .int 0, .int 0, .int 0, .int (-1), .int 0, .int 0, .ref h11, .ref h12, .ref h1, .int 8])), (h1, .inl (cA 0, 2400, .inl (upd (upd (upd (upd (upd (upd (upd (upd (fun _ => 0) 0 100) 1 97) 2 121) 3 32) 4 48) 5 32) 6 97) 7 115)))] [.ref h0, .int 115] (fun (w : va_W) (r : Option Value) => (w = [(h0, .inr (12, [.ref h2, .ref h3, .ref h4, .ref h5, .ref h6, .ref h7, .int 0, .int 0, .long 0, .long 0, .ref h8, .ref h9, .ref h10, .int 0, .int 0, .int 0, .int 0, .int 0, .int (-1), .int 0, .int 0, .ref h11, .ref h12, .ref h1, .int 9])), (h1, .inl (cA 0, 2400, .inl (upd (upd (upd (upd (upd (upd (upd (upd (upd (fun _ => 0) 0 100) 1 97) 2 121) 3 32) 4 48) 5 32) 6 97) 7 115) 8 115)))] ∧ r = none)) jj_noX := by
  refine jj_start hl (by decide) jw_949 (jj_le rfl) ?_
  intro p e s m args below meth c A hargs hA C hex hmn
  refine jj_aload_n C dX11_print_0 rfl ?_
  refine jj_get C jk_12 23 (by decide) jw_220 0 rfl rfl dX11_print_1 ?_
  refine jj_aload_n C dX11_print_4 rfl ?_
  refine jj_get C jk_12 24 (by decide) jw_625 0 rfl rfl dX11_print_5 ?_
  refine jj_iload_n C dX11_print_8 rfl ?_
  refine jj_i2b (v := 115) C dX11_print_9 (by decide) ?_
  refine jj_bast C 1 rfl (vp_in_iff.mpr (by decide)) (g := (upd (upd (upd (upd (upd (upd (upd (upd (upd (fun _ => 0) 0 100) 1 97) 2 121) 3 32) 4 48) 5 32) 6 97) 7 115) 8 115)) rfl rfl dX11_print_10 ?_
  refine jj_aload_n C dX11_print_11 rfl ?_
  refine jj_dup C dX11_print_12 rfl ?_
  refine jj_get C jk_12 24 (by decide) jw_625 0 rfl rfl dX11_print_13 ?_
  refine jj_iconst (v := 1) C dX11_print_16 (by decide) ?_
  refine jj_iadd (v := 9) C dX11_print_17 (by decide) ?_
  refine jj_put C jk_12 24 (by decide) jw_625 rfl 0 rfl rfl rfl rfl rfl dX11_print_18 ?_
  exact jj_vret C ⟨rfl, rfl⟩ dX11_print_21 (jj_le rfl) (jj_le rfl)


set_option maxHeartbeats 4000000 in
set_option maxRecDepth 100000 in
theorem ct_J1_charAt_3b067_22 {l : Launch} (hl : l.stackTraces = false) (D : va_G) (cA : Nat → ClassId) (ak : (Nat → Nat) × (Nat → Nat)) : jj_M l D cA ak yJ1_charAt_3b067 (.code yJ1_charAt_3b067 cJ1_charAt_3b067 2 (some .char)) 2 43 0 0 [] [.ref (ak.2 34), .int 4] (fun (w : va_W) (r : Option Value) => (w = [] ∧ r = some (.int 101))) jj_noX := by
  refine jj_start hl (by decide) jw_908 (jj_le rfl) ?_
  intro p e s m args below meth c A hargs hA C hex hmn
  refine jj_iload_n C dJ1_charAt_3b067_0 rfl ?_
  refine jj_aload_n C dJ1_charAt_3b067_1 rfl ?_
  refine jj_slen (k := 34) (v := 8) C (by decide) (by decide) dJ1_charAt_3b067_2 ?_
  refine jq_callS (rest := []) C (ct_J0_checkIndex_df160_9 hl D cA ak) [] [] rfl rfl (by decide) (by decide) (by decide) jw_905 jw_906 jw_715 jw_904 jn_J0_checkIndex_df160 rfl (jj_le rfl) (jj_le rfl) (jj_le rfl) (jj_le rfl) (jj_le rfl) dJ1_charAt_3b067_3 rfl (fun _ _ hX => hX.elim) (fun w1 r O_2 => ?_)
  obtain ⟨rfl, rfl⟩ := O_2
  refine jj_apd rfl ?_
  refine jj_aload_n C dJ1_charAt_3b067_6 rfl ?_
  refine jj_iload_n C dJ1_charAt_3b067_7 rfl ?_
  refine jj_sbyt (k := 34) (v := 101) C (by decide) (vp_in_iff.mpr (by decide)) (by decide) dJ1_charAt_3b067_8 ?_
  refine jj_sipush (v := 255) C dJ1_charAt_3b067_9 (by decide) ?_
  refine jj_iand (v := 101) C dJ1_charAt_3b067_12 (by decide) ?_
  refine jj_i2c (v := 101) C dJ1_charAt_3b067_13 (by decide) ?_
  exact jj_zret C rfl ⟨rfl, rfl⟩ dJ1_charAt_3b067_14 (jj_le rfl) (jj_le rfl)


set_option maxHeartbeats 4000000 in
set_option maxRecDepth 100000 in
theorem ct_J0_charAt_5068e_22 {l : Launch} (hl : l.stackTraces = false) (D : va_G) (cA : Nat → ClassId) (ak : (Nat → Nat) × (Nat → Nat)) : jj_M l D cA ak yJ0_charAt_5068e (.code yJ0_charAt_5068e cJ0_charAt_5068e 2 (some .char)) 3 64 0 0 [] [.ref (ak.1 34), .int 4] (fun (w : va_W) (r : Option Value) => (w = [] ∧ r = some (.int 101))) jj_noX := by
  refine jj_start hl (by decide) jw_913 (jj_le rfl) ?_
  intro p e s m args below meth c A hargs hA C hex hmn
  refine jj_aload_n C dJ0_charAt_5068e_0 rfl ?_
  refine jq_callVs (rest := []) C (ct_J0_isLatin1_aae02_5 hl D cA ak) [] [] rfl rfl (by decide) (by decide) (by decide) 34 (by decide) rfl jw_894 jw_895 jw_896 jw_715 jw_893 jn_J0_isLatin1_aae02 rfl (jj_le rfl) (jj_le rfl) (jj_le rfl) (jj_le rfl) (jj_le rfl) dJ0_charAt_5068e_1 rfl (fun _ _ hX => hX.elim) (fun w1 r O_2 => ?_)
  obtain ⟨rfl, rfl⟩ := O_2
  refine jj_apd rfl ?_
  refine jj_if_eqF (tgt := 16) C dJ0_charAt_5068e_4 (by decide) (by decide) ?_
  refine jj_aload_n C dJ0_charAt_5068e_7 rfl ?_
  refine jj_sval (k := 34) C (by decide) jw_710 dJ0_charAt_5068e_8 ?_
  refine jj_iload_n C dJ0_charAt_5068e_11 rfl ?_
  refine jq_callS (rest := []) C (ct_J1_charAt_3b067_22 hl D cA ak) [] [] rfl rfl (by decide) (by decide) (by decide) jw_909 jw_911 jw_910 jw_908 jn_J1_charAt_3b067 rfl (jj_le rfl) (jj_le rfl) (jj_le rfl) (jj_le rfl) (jj_le rfl) dJ0_charAt_5068e_12 rfl (fun _ _ hX => hX.elim) (fun w1 r O_4 => ?_)
  obtain ⟨rfl, rfl⟩ := O_4
  refine jj_apd rfl ?_
  exact jj_zret C rfl ⟨rfl, rfl⟩ dJ0_charAt_5068e_15 (jj_le rfl) (jj_le rfl)


set_option maxHeartbeats 4000000 in
set_option maxRecDepth 100000 in
theorem ct_X11_print_10 {l : Launch} (hl : l.stackTraces = false) (D : va_G) (cA : Nat → ClassId) (ak : (Nat → Nat) × (Nat → Nat)) (h0 h1 h2 h3 h4 h5 h6 h7 h8 h9 h10 h11 h12 : Nat) : jj_M l D cA ak yX11_print (.code yX11_print cX11_print 2 none) 0 0 0 0 [(h0, .inr (12, [.ref h2, .ref h3, .ref h4, .ref h5, .ref h6, .ref h7, .int 0, .int 0, .long 0, .long 0, .ref h8, .ref h9, .ref h10, .int 0, .int 0, .int 0, .int 0, .int 0, .int (-1), .int 0, .int 0, .ref h11, .ref h12, .ref h1, .int 9])), (h1, .inl (cA 0, 2400, .inl (upd (upd (upd (upd (upd (upd (upd (upd (upd (fun _ => 0) 0 100) 1 97) 2 121) 3 32) 4 48) 5 32) 6 97) 7 115) 8 115)))] [.ref h0, .int 101] (fun (w : va_W) (r : Option Value) => (w = [(h0, .inr (12, [.ref h2, .ref h3, .ref h4, .ref h5, .ref h6, .ref h7, .int 0, .int 0, .long 0, .long 0, .ref h8, .ref h9, .ref h10, .int 0, .int 0, .int 0, .int 0, .int 0, .int (-1), .int 0, .int 0, .ref h11, .ref h12, .ref h1, .int 10])), (h1, .inl (cA 0, 2400, .inl (upd (upd (upd (upd (upd (upd (upd (upd (upd (upd (fun _ => 0) 0 100) 1 97) 2 121) 3 32) 4 48) 5 32) 6 97) 7 115) 8 115) 9 101)))] ∧ r = none)) jj_noX := by
  refine jj_start hl (by decide) jw_949 (jj_le rfl) ?_
  intro p e s m args below meth c A hargs hA C hex hmn
  refine jj_aload_n C dX11_print_0 rfl ?_
  refine jj_get C jk_12 23 (by decide) jw_220 0 rfl rfl dX11_print_1 ?_
  refine jj_aload_n C dX11_print_4 rfl ?_
  refine jj_get C jk_12 24 (by decide) jw_625 0 rfl rfl dX11_print_5 ?_
  refine jj_iload_n C dX11_print_8 rfl ?_
  refine jj_i2b (v := 101) C dX11_print_9 (by decide) ?_
  refine jj_bast C 1 rfl (vp_in_iff.mpr (by decide)) (g := (upd (upd (upd (upd (upd (upd (upd (upd (upd (upd (fun _ => 0) 0 100) 1 97) 2 121) 3 32) 4 48) 5 32) 6 97) 7 115) 8 115) 9 101)) rfl rfl dX11_print_10 ?_
  refine jj_aload_n C dX11_print_11 rfl ?_
  refine jj_dup C dX11_print_12 rfl ?_
  refine jj_get C jk_12 24 (by decide) jw_625 0 rfl rfl dX11_print_13 ?_
  refine jj_iconst (v := 1) C dX11_print_16 (by decide) ?_
  refine jj_iadd (v := 10) C dX11_print_17 (by decide) ?_
  refine jj_put C jk_12 24 (by decide) jw_625 rfl 0 rfl rfl rfl rfl rfl dX11_print_18 ?_
  exact jj_vret C ⟨rfl, rfl⟩ dX11_print_21 (jj_le rfl) (jj_le rfl)


set_option maxHeartbeats 4000000 in
set_option maxRecDepth 100000 in
theorem ct_J1_charAt_3b067_23 {l : Launch} (hl : l.stackTraces = false) (D : va_G) (cA : Nat → ClassId) (ak : (Nat → Nat) × (Nat → Nat)) : jj_M l D cA ak yJ1_charAt_3b067 (.code yJ1_charAt_3b067 cJ1_charAt_3b067 2 (some .char)) 2 43 0 0 [] [.ref (ak.2 34), .int 5] (fun (w : va_W) (r : Option Value) => (w = [] ∧ r = some (.int 116))) jj_noX := by
  refine jj_start hl (by decide) jw_908 (jj_le rfl) ?_
  intro p e s m args below meth c A hargs hA C hex hmn
  refine jj_iload_n C dJ1_charAt_3b067_0 rfl ?_
  refine jj_aload_n C dJ1_charAt_3b067_1 rfl ?_
  refine jj_slen (k := 34) (v := 8) C (by decide) (by decide) dJ1_charAt_3b067_2 ?_
  refine jq_callS (rest := []) C (ct_J0_checkIndex_df160_10 hl D cA ak) [] [] rfl rfl (by decide) (by decide) (by decide) jw_905 jw_906 jw_715 jw_904 jn_J0_checkIndex_df160 rfl (jj_le rfl) (jj_le rfl) (jj_le rfl) (jj_le rfl) (jj_le rfl) dJ1_charAt_3b067_3 rfl (fun _ _ hX => hX.elim) (fun w1 r O_2 => ?_)
  obtain ⟨rfl, rfl⟩ := O_2
  refine jj_apd rfl ?_
  refine jj_aload_n C dJ1_charAt_3b067_6 rfl ?_
  refine jj_iload_n C dJ1_charAt_3b067_7 rfl ?_
  refine jj_sbyt (k := 34) (v := 116) C (by decide) (vp_in_iff.mpr (by decide)) (by decide) dJ1_charAt_3b067_8 ?_
  refine jj_sipush (v := 255) C dJ1_charAt_3b067_9 (by decide) ?_
  refine jj_iand (v := 116) C dJ1_charAt_3b067_12 (by decide) ?_
  refine jj_i2c (v := 116) C dJ1_charAt_3b067_13 (by decide) ?_
  exact jj_zret C rfl ⟨rfl, rfl⟩ dJ1_charAt_3b067_14 (jj_le rfl) (jj_le rfl)


set_option maxHeartbeats 4000000 in
set_option maxRecDepth 100000 in
theorem ct_J0_charAt_5068e_23 {l : Launch} (hl : l.stackTraces = false) (D : va_G) (cA : Nat → ClassId) (ak : (Nat → Nat) × (Nat → Nat)) : jj_M l D cA ak yJ0_charAt_5068e (.code yJ0_charAt_5068e cJ0_charAt_5068e 2 (some .char)) 3 64 0 0 [] [.ref (ak.1 34), .int 5] (fun (w : va_W) (r : Option Value) => (w = [] ∧ r = some (.int 116))) jj_noX := by
  refine jj_start hl (by decide) jw_913 (jj_le rfl) ?_
  intro p e s m args below meth c A hargs hA C hex hmn
  refine jj_aload_n C dJ0_charAt_5068e_0 rfl ?_
  refine jq_callVs (rest := []) C (ct_J0_isLatin1_aae02_5 hl D cA ak) [] [] rfl rfl (by decide) (by decide) (by decide) 34 (by decide) rfl jw_894 jw_895 jw_896 jw_715 jw_893 jn_J0_isLatin1_aae02 rfl (jj_le rfl) (jj_le rfl) (jj_le rfl) (jj_le rfl) (jj_le rfl) dJ0_charAt_5068e_1 rfl (fun _ _ hX => hX.elim) (fun w1 r O_2 => ?_)
  obtain ⟨rfl, rfl⟩ := O_2
  refine jj_apd rfl ?_
  refine jj_if_eqF (tgt := 16) C dJ0_charAt_5068e_4 (by decide) (by decide) ?_
  refine jj_aload_n C dJ0_charAt_5068e_7 rfl ?_
  refine jj_sval (k := 34) C (by decide) jw_710 dJ0_charAt_5068e_8 ?_
  refine jj_iload_n C dJ0_charAt_5068e_11 rfl ?_
  refine jq_callS (rest := []) C (ct_J1_charAt_3b067_23 hl D cA ak) [] [] rfl rfl (by decide) (by decide) (by decide) jw_909 jw_911 jw_910 jw_908 jn_J1_charAt_3b067 rfl (jj_le rfl) (jj_le rfl) (jj_le rfl) (jj_le rfl) (jj_le rfl) dJ0_charAt_5068e_12 rfl (fun _ _ hX => hX.elim) (fun w1 r O_4 => ?_)
  obtain ⟨rfl, rfl⟩ := O_4
  refine jj_apd rfl ?_
  exact jj_zret C rfl ⟨rfl, rfl⟩ dJ0_charAt_5068e_15 (jj_le rfl) (jj_le rfl)


set_option maxHeartbeats 4000000 in
set_option maxRecDepth 100000 in
theorem ct_X11_print_11 {l : Launch} (hl : l.stackTraces = false) (D : va_G) (cA : Nat → ClassId) (ak : (Nat → Nat) × (Nat → Nat)) (h0 h1 h2 h3 h4 h5 h6 h7 h8 h9 h10 h11 h12 : Nat) : jj_M l D cA ak yX11_print (.code yX11_print cX11_print 2 none) 0 0 0 0 [(h0, .inr (12, [.ref h2, .ref h3, .ref h4, .ref h5, .ref h6, .ref h7, .int 0, .int 0, .long 0, .long 0, .ref h8, .ref h9, .ref h10, .int 0, .int 0, .int 0, .int 0, .int 0, .int (-1), .int 0, .int 0, .ref h11, .ref h12, .ref h1, .int 10])), (h1, .inl (cA 0, 2400, .inl (upd (upd (upd (upd (upd (upd (upd (upd (upd (upd (fun _ => 0) 0 100) 1 97) 2 121) 3 32) 4 48) 5 32) 6 97) 7 115) 8 115) 9 101)))] [.ref h0, .int 116] (fun (w : va_W) (r : Option Value) => (w = [(h0, .inr (12, [.ref h2, .ref h3, .ref h4, .ref h5, .ref h6, .ref h7, .int 0, .int 0, .long 0, .long 0, .ref h8, .ref h9, .ref h10, .int 0, .int 0, .int 0, .int 0, .int 0, .int (-1), .int 0, .int 0, .ref h11, .ref h12, .ref h1, .int 11])), (h1, .inl (cA 0, 2400, .inl (upd (upd (upd (upd (upd (upd (upd (upd (upd (upd (upd (fun _ => 0) 0 100) 1 97) 2 121) 3 32) 4 48) 5 32) 6 97) 7 115) 8 115) 9 101) 10 116)))] ∧ r = none)) jj_noX := by
  refine jj_start hl (by decide) jw_949 (jj_le rfl) ?_
  intro p e s m args below meth c A hargs hA C hex hmn
  refine jj_aload_n C dX11_print_0 rfl ?_
  refine jj_get C jk_12 23 (by decide) jw_220 0 rfl rfl dX11_print_1 ?_
  refine jj_aload_n C dX11_print_4 rfl ?_
  refine jj_get C jk_12 24 (by decide) jw_625 0 rfl rfl dX11_print_5 ?_
  refine jj_iload_n C dX11_print_8 rfl ?_
  refine jj_i2b (v := 116) C dX11_print_9 (by decide) ?_
  refine jj_bast C 1 rfl (vp_in_iff.mpr (by decide)) (g := (upd (upd (upd (upd (upd (upd (upd (upd (upd (upd (upd (fun _ => 0) 0 100) 1 97) 2 121) 3 32) 4 48) 5 32) 6 97) 7 115) 8 115) 9 101) 10 116)) rfl rfl dX11_print_10 ?_
  refine jj_aload_n C dX11_print_11 rfl ?_
  refine jj_dup C dX11_print_12 rfl ?_
  refine jj_get C jk_12 24 (by decide) jw_625 0 rfl rfl dX11_print_13 ?_
  refine jj_iconst (v := 1) C dX11_print_16 (by decide) ?_
  refine jj_iadd (v := 11) C dX11_print_17 (by decide) ?_
  refine jj_put C jk_12 24 (by decide) jw_625 rfl 0 rfl rfl rfl rfl rfl dX11_print_18 ?_
  exact jj_vret C ⟨rfl, rfl⟩ dX11_print_21 (jj_le rfl) (jj_le rfl)


set_option maxHeartbeats 4000000 in
set_option maxRecDepth 100000 in
theorem ct_J1_charAt_3b067_24 {l : Launch} (hl : l.stackTraces = false) (D : va_G) (cA : Nat → ClassId) (ak : (Nat → Nat) × (Nat → Nat)) : jj_M l D cA ak yJ1_charAt_3b067 (.code yJ1_charAt_3b067 cJ1_charAt_3b067 2 (some .char)) 2 43 0 0 [] [.ref (ak.2 34), .int 6] (fun (w : va_W) (r : Option Value) => (w = [] ∧ r = some (.int 115))) jj_noX := by
  refine jj_start hl (by decide) jw_908 (jj_le rfl) ?_
  intro p e s m args below meth c A hargs hA C hex hmn
  refine jj_iload_n C dJ1_charAt_3b067_0 rfl ?_
  refine jj_aload_n C dJ1_charAt_3b067_1 rfl ?_
  refine jj_slen (k := 34) (v := 8) C (by decide) (by decide) dJ1_charAt_3b067_2 ?_
  refine jq_callS (rest := []) C (ct_J0_checkIndex_df160_11 hl D cA ak) [] [] rfl rfl (by decide) (by decide) (by decide) jw_905 jw_906 jw_715 jw_904 jn_J0_checkIndex_df160 rfl (jj_le rfl) (jj_le rfl) (jj_le rfl) (jj_le rfl) (jj_le rfl) dJ1_charAt_3b067_3 rfl (fun _ _ hX => hX.elim) (fun w1 r O_2 => ?_)
  obtain ⟨rfl, rfl⟩ := O_2
  refine jj_apd rfl ?_
  refine jj_aload_n C dJ1_charAt_3b067_6 rfl ?_
  refine jj_iload_n C dJ1_charAt_3b067_7 rfl ?_
  refine jj_sbyt (k := 34) (v := 115) C (by decide) (vp_in_iff.mpr (by decide)) (by decide) dJ1_charAt_3b067_8 ?_
  refine jj_sipush (v := 255) C dJ1_charAt_3b067_9 (by decide) ?_
  refine jj_iand (v := 115) C dJ1_charAt_3b067_12 (by decide) ?_
  refine jj_i2c (v := 115) C dJ1_charAt_3b067_13 (by decide) ?_
  exact jj_zret C rfl ⟨rfl, rfl⟩ dJ1_charAt_3b067_14 (jj_le rfl) (jj_le rfl)


set_option maxHeartbeats 4000000 in
set_option maxRecDepth 100000 in
theorem ct_J0_charAt_5068e_24 {l : Launch} (hl : l.stackTraces = false) (D : va_G) (cA : Nat → ClassId) (ak : (Nat → Nat) × (Nat → Nat)) : jj_M l D cA ak yJ0_charAt_5068e (.code yJ0_charAt_5068e cJ0_charAt_5068e 2 (some .char)) 3 64 0 0 [] [.ref (ak.1 34), .int 6] (fun (w : va_W) (r : Option Value) => (w = [] ∧ r = some (.int 115))) jj_noX := by
  refine jj_start hl (by decide) jw_913 (jj_le rfl) ?_
  intro p e s m args below meth c A hargs hA C hex hmn
  refine jj_aload_n C dJ0_charAt_5068e_0 rfl ?_
  refine jq_callVs (rest := []) C (ct_J0_isLatin1_aae02_5 hl D cA ak) [] [] rfl rfl (by decide) (by decide) (by decide) 34 (by decide) rfl jw_894 jw_895 jw_896 jw_715 jw_893 jn_J0_isLatin1_aae02 rfl (jj_le rfl) (jj_le rfl) (jj_le rfl) (jj_le rfl) (jj_le rfl) dJ0_charAt_5068e_1 rfl (fun _ _ hX => hX.elim) (fun w1 r O_2 => ?_)
  obtain ⟨rfl, rfl⟩ := O_2
  refine jj_apd rfl ?_
  refine jj_if_eqF (tgt := 16) C dJ0_charAt_5068e_4 (by decide) (by decide) ?_
  refine jj_aload_n C dJ0_charAt_5068e_7 rfl ?_
  refine jj_sval (k := 34) C (by decide) jw_710 dJ0_charAt_5068e_8 ?_
  refine jj_iload_n C dJ0_charAt_5068e_11 rfl ?_
  refine jq_callS (rest := []) C (ct_J1_charAt_3b067_24 hl D cA ak) [] [] rfl rfl (by decide) (by decide) (by decide) jw_909 jw_911 jw_910 jw_908 jn_J1_charAt_3b067 rfl (jj_le rfl) (jj_le rfl) (jj_le rfl) (jj_le rfl) (jj_le rfl) dJ0_charAt_5068e_12 rfl (fun _ _ hX => hX.elim) (fun w1 r O_4 => ?_)
  obtain ⟨rfl, rfl⟩ := O_4
  refine jj_apd rfl ?_
  exact jj_zret C rfl ⟨rfl, rfl⟩ dJ0_charAt_5068e_15 (jj_le rfl) (jj_le rfl)


set_option maxHeartbeats 4000000 in
set_option maxRecDepth 100000 in
theorem ct_X11_print_12 {l : Launch} (hl : l.stackTraces = false) (D : va_G) (cA : Nat → ClassId) (ak : (Nat → Nat) × (Nat → Nat)) (h0 h1 h2 h3 h4 h5 h6 h7 h8 h9 h10 h11 h12 : Nat) : jj_M l D cA ak yX11_print (.code yX11_print cX11_print 2 none) 0 0 0 0 [(h0, .inr (12, [.ref h2, .ref h3, .ref h4, .ref h5, .ref h6, .ref h7, .int 0, .int 0, .long 0, .long 0, .ref h8, .ref h9, .ref h10, .int 0, .int 0, .int 0, .int 0, .int 0, .int (-1), .int 0, .int 0, .ref h11, .ref h12, .ref h1, .int 11])), (h1, .inl (cA 0, 2400, .inl (upd (upd (upd (upd (upd (upd (upd (upd (upd (upd (upd (fun _ => 0) 0 100) 1 97) 2 121) 3 32) 4 48) 5 32) 6 97) 7 115) 8 115) 9 101) 10 116)))] [.ref h0, .int 115] (fun (w : va_W) (r : Option Value) => (w = [(h0, .inr (12, [.ref h2, .ref h3, .ref h4, .ref h5, .ref h6, .ref h7, .int 0, .int 0, .long 0, .long 0, .ref h8, .ref h9, .ref h10, .int 0, .int 0, .int 0, .int 0, .int 0, .int (-1), .int 0, .int 0, .ref h11, .ref h12, .ref h1, .int 12])), (h1, .inl (cA 0, 2400, .inl (upd (upd (upd (upd (upd (upd (upd (upd (upd (upd (upd (upd (fun _ => 0) 0 100) 1 97) 2 121) 3 32) 4 48) 5 32) 6 97) 7 115) 8 115) 9 101) 10 116) 11 115)))] ∧ r = none)) jj_noX := by
  refine jj_start hl (by decide) jw_949 (jj_le rfl) ?_
  intro p e s m args below meth c A hargs hA C hex hmn
  refine jj_aload_n C dX11_print_0 rfl ?_
  refine jj_get C jk_12 23 (by decide) jw_220 0 rfl rfl dX11_print_1 ?_
  refine jj_aload_n C dX11_print_4 rfl ?_
  refine jj_get C jk_12 24 (by decide) jw_625 0 rfl rfl dX11_print_5 ?_
  refine jj_iload_n C dX11_print_8 rfl ?_
  refine jj_i2b (v := 115) C dX11_print_9 (by decide) ?_
  refine jj_bast C 1 rfl (vp_in_iff.mpr (by decide)) (g := (upd (upd (upd (upd (upd (upd (upd (upd (upd (upd (upd (upd (fun _ => 0) 0 100) 1 97) 2 121) 3 32) 4 48) 5 32) 6 97) 7 115) 8 115) 9 101) 10 116) 11 115)) rfl rfl dX11_print_10 ?_
  refine jj_aload_n C dX11_print_11 rfl ?_
  refine jj_dup C dX11_print_12 rfl ?_
  refine jj_get C jk_12 24 (by decide) jw_625 0 rfl rfl dX11_print_13 ?_
  refine jj_iconst (v := 1) C dX11_print_16 (by decide) ?_
  refine jj_iadd (v := 12) C dX11_print_17 (by decide) ?_
  refine jj_put C jk_12 24 (by decide) jw_625 rfl 0 rfl rfl rfl rfl rfl dX11_print_18 ?_
  exact jj_vret C ⟨rfl, rfl⟩ dX11_print_21 (jj_le rfl) (jj_le rfl)


set_option maxHeartbeats 4000000 in
set_option maxRecDepth 100000 in
theorem ct_J1_charAt_3b067_25 {l : Launch} (hl : l.stackTraces = false) (D : va_G) (cA : Nat → ClassId) (ak : (Nat → Nat) × (Nat → Nat)) : jj_M l D cA ak yJ1_charAt_3b067 (.code yJ1_charAt_3b067 cJ1_charAt_3b067 2 (some .char)) 2 43 0 0 [] [.ref (ak.2 34), .int 7] (fun (w : va_W) (r : Option Value) => (w = [] ∧ r = some (.int 32))) jj_noX := by
  refine jj_start hl (by decide) jw_908 (jj_le rfl) ?_
  intro p e s m args below meth c A hargs hA C hex hmn
  refine jj_iload_n C dJ1_charAt_3b067_0 rfl ?_
  refine jj_aload_n C dJ1_charAt_3b067_1 rfl ?_
  refine jj_slen (k := 34) (v := 8) C (by decide) (by decide) dJ1_charAt_3b067_2 ?_
  refine jq_callS (rest := []) C (ct_J0_checkIndex_df160_12 hl D cA ak) [] [] rfl rfl (by decide) (by decide) (by decide) jw_905 jw_906 jw_715 jw_904 jn_J0_checkIndex_df160 rfl (jj_le rfl) (jj_le rfl) (jj_le rfl) (jj_le rfl) (jj_le rfl) dJ1_charAt_3b067_3 rfl (fun _ _ hX => hX.elim) (fun w1 r O_2 => ?_)
  obtain ⟨rfl, rfl⟩ := O_2
  refine jj_apd rfl ?_
  refine jj_aload_n C dJ1_charAt_3b067_6 rfl ?_
  refine jj_iload_n C dJ1_charAt_3b067_7 rfl ?_
  refine jj_sbyt (k := 34) (v := 32) C (by decide) (vp_in_iff.mpr (by decide)) (by decide) dJ1_charAt_3b067_8 ?_
  refine jj_sipush (v := 255) C dJ1_charAt_3b067_9 (by decide) ?_
  refine jj_iand (v := 32) C dJ1_charAt_3b067_12 (by decide) ?_
  refine jj_i2c (v := 32) C dJ1_charAt_3b067_13 (by decide) ?_
  exact jj_zret C rfl ⟨rfl, rfl⟩ dJ1_charAt_3b067_14 (jj_le rfl) (jj_le rfl)


set_option maxHeartbeats 4000000 in
set_option maxRecDepth 100000 in
theorem ct_J0_charAt_5068e_25 {l : Launch} (hl : l.stackTraces = false) (D : va_G) (cA : Nat → ClassId) (ak : (Nat → Nat) × (Nat → Nat)) : jj_M l D cA ak yJ0_charAt_5068e (.code yJ0_charAt_5068e cJ0_charAt_5068e 2 (some .char)) 3 64 0 0 [] [.ref (ak.1 34), .int 7] (fun (w : va_W) (r : Option Value) => (w = [] ∧ r = some (.int 32))) jj_noX := by
  refine jj_start hl (by decide) jw_913 (jj_le rfl) ?_
  intro p e s m args below meth c A hargs hA C hex hmn
  refine jj_aload_n C dJ0_charAt_5068e_0 rfl ?_
  refine jq_callVs (rest := []) C (ct_J0_isLatin1_aae02_5 hl D cA ak) [] [] rfl rfl (by decide) (by decide) (by decide) 34 (by decide) rfl jw_894 jw_895 jw_896 jw_715 jw_893 jn_J0_isLatin1_aae02 rfl (jj_le rfl) (jj_le rfl) (jj_le rfl) (jj_le rfl) (jj_le rfl) dJ0_charAt_5068e_1 rfl (fun _ _ hX => hX.elim) (fun w1 r O_2 => ?_)
  obtain ⟨rfl, rfl⟩ := O_2
  refine jj_apd rfl ?_
  refine jj_if_eqF (tgt := 16) C dJ0_charAt_5068e_4 (by decide) (by decide) ?_
  refine jj_aload_n C dJ0_charAt_5068e_7 rfl ?_
  refine jj_sval (k := 34) C (by decide) jw_710 dJ0_charAt_5068e_8 ?_
  refine jj_iload_n C dJ0_charAt_5068e_11 rfl ?_
  refine jq_callS (rest := []) C (ct_J1_charAt_3b067_25 hl D cA ak) [] [] rfl rfl (by decide) (by decide) (by decide) jw_909 jw_911 jw_910 jw_908 jn_J1_charAt_3b067 rfl (jj_le rfl) (jj_le rfl) (jj_le rfl) (jj_le rfl) (jj_le rfl) dJ0_charAt_5068e_12 rfl (fun _ _ hX => hX.elim) (fun w1 r O_4 => ?_)
  obtain ⟨rfl, rfl⟩ := O_4
  refine jj_apd rfl ?_
  exact jj_zret C rfl ⟨rfl, rfl⟩ dJ0_charAt_5068e_15 (jj_le rfl) (jj_le rfl)


set_option maxHeartbeats 4000000 in
set_option maxRecDepth 100000 in
theorem ct_X11_print_13 {l : Launch} (hl : l.stackTraces = false) (D : va_G) (cA : Nat → ClassId) (ak : (Nat → Nat) × (Nat → Nat)) (h0 h1 h2 h3 h4 h5 h6 h7 h8 h9 h10 h11 h12 : Nat) : jj_M l D cA ak yX11_print (.code yX11_print cX11_print 2 none) 0 0 0 0 [(h0, .inr (12, [.ref h2, .ref h3, .ref h4, .ref h5, .ref h6, .ref h7, .int 0, .int 0, .long 0, .long 0, .ref h8, .ref h9, .ref h10, .int 0, .int 0, .int 0, .int 0, .int 0, .int (-1), .int 0, .int 0, .ref h11, .ref h12, .ref h1, .int 12])), (h1, .inl (cA 0, 2400, .inl (upd (upd (upd (upd (upd (upd (upd (upd (upd (upd (upd (upd (fun _ => 0) 0 100) 1 97) 2 121) 3 32) 4 48) 5 32) 6 97) 7 115) 8 115) 9 101) 10 116) 11 115)))] [.ref h0, .int 32] (fun (w : va_W) (r : Option Value) => (w = [(h0, .inr (12, [.ref h2, .ref h3, .ref h4, .ref h5, .ref h6, .ref h7, .int 0, .int 0, .long 0, .long 0, .ref h8, .ref h9, .ref h10, .int 0, .int 0, .int 0, .int 0, .int 0, .int (-1), .int 0, .int 0, .ref h11, .ref h12, .ref h1, .int 13])), (h1, .inl (cA 0, 2400, .inl (upd (upd (upd (upd (upd (upd (upd (upd (upd (upd (upd (upd (upd (fun _ => 0) 0 100) 1 97) 2 121) 3 32) 4 48) 5 32) 6 97) 7 115) 8 115) 9 101) 10 116) 11 115) 12 32)))] ∧ r = none)) jj_noX := by
  refine jj_start hl (by decide) jw_949 (jj_le rfl) ?_
  intro p e s m args below meth c A hargs hA C hex hmn
  refine jj_aload_n C dX11_print_0 rfl ?_
  refine jj_get C jk_12 23 (by decide) jw_220 0 rfl rfl dX11_print_1 ?_
  refine jj_aload_n C dX11_print_4 rfl ?_
  refine jj_get C jk_12 24 (by decide) jw_625 0 rfl rfl dX11_print_5 ?_
  refine jj_iload_n C dX11_print_8 rfl ?_
  refine jj_i2b (v := 32) C dX11_print_9 (by decide) ?_
  refine jj_bast C 1 rfl (vp_in_iff.mpr (by decide)) (g := (upd (upd (upd (upd (upd (upd (upd (upd (upd (upd (upd (upd (upd (fun _ => 0) 0 100) 1 97) 2 121) 3 32) 4 48) 5 32) 6 97) 7 115) 8 115) 9 101) 10 116) 11 115) 12 32)) rfl rfl dX11_print_10 ?_
  refine jj_aload_n C dX11_print_11 rfl ?_
  refine jj_dup C dX11_print_12 rfl ?_
  refine jj_get C jk_12 24 (by decide) jw_625 0 rfl rfl dX11_print_13 ?_
  refine jj_iconst (v := 1) C dX11_print_16 (by decide) ?_
  refine jj_iadd (v := 13) C dX11_print_17 (by decide) ?_
  refine jj_put C jk_12 24 (by decide) jw_625 rfl 0 rfl rfl rfl rfl rfl dX11_print_18 ?_
  exact jj_vret C ⟨rfl, rfl⟩ dX11_print_21 (jj_le rfl) (jj_le rfl)


set_option maxHeartbeats 4000000 in
set_option maxRecDepth 100000 in
theorem ct_X11_printWord_2 {l : Launch} (hl : l.stackTraces = false) (D : va_G) (cA : Nat → ClassId) (ak : (Nat → Nat) × (Nat → Nat)) (h0 h1 h2 h3 h4 h5 h6 h7 h8 h9 h10 h11 h12 : Nat) : jj_M l D cA ak yX11_printWord (.code yX11_printWord cX11_printWord 3 none) 4 85 0 0 [(h0, .inr (12, [.ref h2, .ref h3, .ref h4, .ref h5, .ref h6, .ref h7, .int 0, .int 0, .long 0, .long 0, .ref h8, .ref h9, .ref h10, .int 0, .int 0, .int 0, .int 0, .int 0, .int (-1), .int 0, .int 0, .ref h11, .ref h12, .ref h1, .int 5])), (h1, .inl (cA 0, 2400, .inl (upd (upd (upd (upd (upd (fun _ => 0) 0 100) 1 97) 2 121) 3 32) 4 48)))] [.ref h0, .ref (ak.1 34)] (fun (w : va_W) (r : Option Value) => (w = [(h0, .inr (12, [.ref h2, .ref h3, .ref h4, .ref h5, .ref h6, .ref h7, .int 0, .int 0, .long 0, .long 0, .ref h8, .ref h9, .ref h10, .int 0, .int 0, .int 0, .int 0, .int 0, .int (-1), .int 0, .int 0, .ref h11, .ref h12, .ref h1, .int 13])), (h1, .inl (cA 0, 2400, .inl (upd (upd (upd (upd (upd (upd (upd (upd (upd (upd (upd (upd (upd (fun _ => 0) 0 100) 1 97) 2 121) 3 32) 4 48) 5 32) 6 97) 7 115) 8 115) 9 101) 10 116) 11 115) 12 32)))] ∧ r = none)) jj_noX := by
  refine jj_start hl (by decide) jw_954 (jj_le rfl) ?_
  intro p e s m args below meth c A hargs hA C hex hmn
  refine jj_iconst (v := 0) C dX11_printWord_0 (by decide) ?_
  refine jj_istore_n C dX11_printWord_1 (by decide) rfl ?_
  refine jj_iload_n C dX11_printWord_2 rfl ?_
  refine jj_aload_n C dX11_printWord_3 rfl ?_
  refine jq_callVs (rest := [.int 0]) C (ct_J0_length_8abf5_10 hl D cA ak) [] [0, 1] rfl rfl (by decide) (by decide) (by decide) 34 (by decide) rfl jw_720 jw_721 jw_722 jw_715 jw_719 jn_J0_length_8abf5 rfl (jj_le rfl) (jj_le rfl) (jj_le rfl) (jj_le rfl) (jj_le rfl) dX11_printWord_4 rfl (fun _ _ hX => hX.elim) (fun w1 r O_2 => ?_)
  obtain ⟨rfl, rfl⟩ := O_2
  refine jj_apd rfl ?_
  refine jj_icmp_geF (tgt := 25) C dX11_printWord_7 (by decide) (by decide) ?_
  refine jj_aload_n C dX11_printWord_10 rfl ?_
  refine jj_aload_n C dX11_printWord_11 rfl ?_
  refine jj_iload_n C dX11_printWord_12 rfl ?_
  refine jq_callVs (rest := [.ref h0]) C (ct_J0_charAt_5068e_18 hl D cA ak) [] [0, 1] rfl rfl (by decide) (by decide) (by decide) 34 (by decide) rfl jw_948 jw_915 jw_916 jw_715 jw_913 jn_J0_charAt_5068e rfl (jj_le rfl) (jj_le rfl) (jj_le rfl) (jj_le rfl) (jj_le rfl) dX11_printWord_13 rfl (fun _ _ hX => hX.elim) (fun w1 r O_4 => ?_)
  obtain ⟨rfl, rfl⟩ := O_4
  refine jj_apd rfl ?_
  refine jq_callV (rest := []) C (ct_X11_print_6 hl D cA ak h0 h1 h2 h3 h4 h5 h6 h7 h8 h9 h10 h11 h12) [0, 1] [] rfl rfl (by decide) (by decide) (by decide) 0 rfl rfl rfl jw_950 jw_951 jw_952 jw_224 jw_949 jn_X11_print rfl (jj_le rfl) (jj_le rfl) (jj_le rfl) (jj_le rfl) (jj_le rfl) dX11_printWord_16 rfl (fun _ _ hX => hX.elim) (fun w1 r O_6 => ?_)
  obtain ⟨rfl, rfl⟩ := O_6
  refine jj_apd rfl ?_
  refine jj_iinc (v := 1) C dX11_printWord_19 rfl (by decide) (by decide) rfl ?_
  refine jj_goto (tgt := 2) C dX11_printWord_22 (by decide) ?_
  refine jj_iload_n C dX11_printWord_2 rfl ?_
  refine jj_aload_n C dX11_printWord_3 rfl ?_
  refine jq_callVs (rest := [.int 1]) C (ct_J0_length_8abf5_10 hl D cA ak) [] [0, 1] rfl rfl (by decide) (by decide) (by decide) 34 (by decide) rfl jw_720 jw_721 jw_722 jw_715 jw_719 jn_J0_length_8abf5 rfl (jj_le rfl) (jj_le rfl) (jj_le rfl) (jj_le rfl) (jj_le rfl) dX11_printWord_4 rfl (fun _ _ hX => hX.elim) (fun w1 r O_8 => ?_)
  obtain ⟨rfl, rfl⟩ := O_8
  refine jj_apd rfl ?_
  refine jj_icmp_geF (tgt := 25) C dX11_printWord_7 (by decide) (by decide) ?_
  refine jj_aload_n C dX11_printWord_10 rfl ?_
  refine jj_aload_n C dX11_printWord_11 rfl ?_
  refine jj_iload_n C dX11_printWord_12 rfl ?_
  refine jq_callVs (rest := [.ref h0]) C (ct_J0_charAt_5068e_19 hl D cA ak) [] [0, 1] rfl rfl (by decide) (by decide) (by decide) 34 (by decide) rfl jw_948 jw_915 jw_916 jw_715 jw_913 jn_J0_charAt_5068e rfl (jj_le rfl) (jj_le rfl) (jj_le rfl) (jj_le rfl) (jj_le rfl) dX11_printWord_13 rfl (fun _ _ hX => hX.elim) (fun w1 r O_10 => ?_)
  obtain ⟨rfl, rfl⟩ := O_10
  refine jj_apd rfl ?_
  refine jq_callV (rest := []) C (ct_X11_print_7 hl D cA ak h0 h1 h2 h3 h4 h5 h6 h7 h8 h9 h10 h11 h12) [0, 1] [] rfl rfl (by decide) (by decide) (by decide) 0 rfl rfl rfl jw_950 jw_951 jw_952 jw_224 jw_949 jn_X11_print rfl (jj_le rfl) (jj_le rfl) (jj_le rfl) (jj_le rfl) (jj_le rfl) dX11_printWord_16 rfl (fun _ _ hX => hX.elim) (fun w1 r O_12 => ?_)
  obtain ⟨rfl, rfl⟩ := O_12
  refine jj_apd rfl ?_
  refine jj_iinc (v := 2) C dX11_printWord_19 rfl (by decide) (by decide) rfl ?_
  refine jj_goto (tgt := 2) C dX11_printWord_22 (by decide) ?_
  refine jj_iload_n C dX11_printWord_2 rfl ?_
  refine jj_aload_n C dX11_printWord_3 rfl ?_
  refine jq_callVs (rest := [.int 2]) C (ct_J0_length_8abf5_10 hl D cA ak) [] [0, 1] rfl rfl (by decide) (by decide) (by decide) 34 (by decide) rfl jw_720 jw_721 jw_722 jw_715 jw_719 jn_J0_length_8abf5 rfl (jj_le rfl) (jj_le rfl) (jj_le rfl) (jj_le rfl) (jj_le rfl) dX11_printWord_4 rfl (fun _ _ hX => hX.elim) (fun w1 r O_14 => ?_)
  obtain ⟨rfl, rfl⟩ := O_14
  refine jj_apd rfl ?_
  refine jj_icmp_geF (tgt := 25) C dX11_printWord_7 (by decide) (by decide) ?_
  refine jj_aload_n C dX11_printWord_10 rfl ?_
  refine jj_aload_n C dX11_printWord_11 rfl ?_
  refine jj_iload_n C dX11_printWord_12 rfl ?_
  refine jq_callVs (rest := [.ref h0]) C (ct_J0_charAt_5068e_20 hl D cA ak) [] [0, 1] rfl rfl (by decide) (by decide) (by decide) 34 (by decide) rfl jw_948 jw_915 jw_916 jw_715 jw_913 jn_J0_charAt_5068e rfl (jj_le rfl) (jj_le rfl) (jj_le rfl) (jj_le rfl) (jj_le rfl) dX11_printWord_13 rfl (fun _ _ hX => hX.elim) (fun w1 r O_16 => ?_)
  obtain ⟨rfl, rfl⟩ := O_16
  refine jj_apd rfl ?_
  refine jq_callV (rest := []) C (ct_X11_print_8 hl D cA ak h0 h1 h2 h3 h4 h5 h6 h7 h8 h9 h10 h11 h12) [0, 1] [] rfl rfl (by decide) (by decide) (by decide) 0 rfl rfl rfl jw_950 jw_951 jw_952 jw_224 jw_949 jn_X11_print rfl (jj_le rfl) (jj_le rfl) (jj_le rfl) (jj_le rfl) (jj_le rfl) dX11_printWord_16 rfl (fun _ _ hX => hX.elim) (fun w1 r O_18 => ?_)
  obtain ⟨rfl, rfl⟩ := O_18
  refine jj_apd rfl ?_
  refine jj_iinc (v := 3) C dX11_printWord_19 rfl (by decide) (by decide) rfl ?_
  refine jj_goto (tgt := 2) C dX11_printWord_22 (by decide) ?_
  refine jj_iload_n C dX11_printWord_2 rfl ?_
  refine jj_aload_n C dX11_printWord_3 rfl ?_
  refine jq_callVs (rest := [.int 3]) C (ct_J0_length_8abf5_10 hl D cA ak) [] [0, 1] rfl rfl (by decide) (by decide) (by decide) 34 (by decide) rfl jw_720 jw_721 jw_722 jw_715 jw_719 jn_J0_length_8abf5 rfl (jj_le rfl) (jj_le rfl) (jj_le rfl) (jj_le rfl) (jj_le rfl) dX11_printWord_4 rfl (fun _ _ hX => hX.elim) (fun w1 r O_20 => ?_)
  obtain ⟨rfl, rfl⟩ := O_20
  refine jj_apd rfl ?_
  refine jj_icmp_geF (tgt := 25) C dX11_printWord_7 (by decide) (by decide) ?_
  refine jj_aload_n C dX11_printWord_10 rfl ?_
  refine jj_aload_n C dX11_printWord_11 rfl ?_
  refine jj_iload_n C dX11_printWord_12 rfl ?_
  refine jq_callVs (rest := [.ref h0]) C (ct_J0_charAt_5068e_21 hl D cA ak) [] [0, 1] rfl rfl (by decide) (by decide) (by decide) 34 (by decide) rfl jw_948 jw_915 jw_916 jw_715 jw_913 jn_J0_charAt_5068e rfl (jj_le rfl) (jj_le rfl) (jj_le rfl) (jj_le rfl) (jj_le rfl) dX11_printWord_13 rfl (fun _ _ hX => hX.elim) (fun w1 r O_22 => ?_)
  obtain ⟨rfl, rfl⟩ := O_22
  refine jj_apd rfl ?_
  refine jq_callV (rest := []) C (ct_X11_print_9 hl D cA ak h0 h1 h2 h3 h4 h5 h6 h7 h8 h9 h10 h11 h12) [0, 1] [] rfl rfl (by decide) (by decide) (by decide) 0 rfl rfl rfl jw_950 jw_951 jw_952 jw_224 jw_949 jn_X11_print rfl (jj_le rfl) (jj_le rfl) (jj_le rfl) (jj_le rfl) (jj_le rfl) dX11_printWord_16 rfl (fun _ _ hX => hX.elim) (fun w1 r O_24 => ?_)
  obtain ⟨rfl, rfl⟩ := O_24
  refine jj_apd rfl ?_
  refine jj_iinc (v := 4) C dX11_printWord_19 rfl (by decide) (by decide) rfl ?_
  refine jj_goto (tgt := 2) C dX11_printWord_22 (by decide) ?_
  refine jj_iload_n C dX11_printWord_2 rfl ?_
  refine jj_aload_n C dX11_printWord_3 rfl ?_
  refine jq_callVs (rest := [.int 4]) C (ct_J0_length_8abf5_10 hl D cA ak) [] [0, 1] rfl rfl (by decide) (by decide) (by decide) 34 (by decide) rfl jw_720 jw_721 jw_722 jw_715 jw_719 jn_J0_length_8abf5 rfl (jj_le rfl) (jj_le rfl) (jj_le rfl) (jj_le rfl) (jj_le rfl) dX11_printWord_4 rfl (fun _ _ hX => hX.elim) (fun w1 r O_26 => ?_)
  obtain ⟨rfl, rfl⟩ := O_26
  refine jj_apd rfl ?_
  refine jj_icmp_geF (tgt := 25) C dX11_printWord_7 (by decide) (by decide) ?_
  refine jj_aload_n C dX11_printWord_10 rfl ?_
  refine jj_aload_n C dX11_printWord_11 rfl ?_
  refine jj_iload_n C dX11_printWord_12 rfl ?_
  refine jq_callVs (rest := [.ref h0]) C (ct_J0_charAt_5068e_22 hl D cA ak) [] [0, 1] rfl rfl (by decide) (by decide) (by decide) 34 (by decide) rfl jw_948 jw_915 jw_916 jw_715 jw_913 jn_J0_charAt_5068e rfl (jj_le rfl) (jj_le rfl) (jj_le rfl) (jj_le rfl) (jj_le rfl) dX11_printWord_13 rfl (fun _ _ hX => hX.elim) (fun w1 r O_28 => ?_)
  obtain ⟨rfl, rfl⟩ := O_28
  refine jj_apd rfl ?_
  refine jq_callV (rest := []) C (ct_X11_print_10 hl D cA ak h0 h1 h2 h3 h4 h5 h6 h7 h8 h9 h10 h11 h12) [0, 1] [] rfl rfl (by decide) (by decide) (by decide) 0 rfl rfl rfl jw_950 jw_951 jw_952 jw_224 jw_949 jn_X11_print rfl (jj_le rfl) (jj_le rfl) (jj_le rfl) (jj_le rfl) (jj_le rfl) dX11_printWord_16 rfl (fun _ _ hX => hX.elim) (fun w1 r O_30 => ?_)
  obtain ⟨rfl, rfl⟩ := O_30
  refine jj_apd rfl ?_
  refine jj_iinc (v := 5) C dX11_printWord_19 rfl (by decide) (by decide) rfl ?_
  refine jj_goto (tgt := 2) C dX11_printWord_22 (by decide) ?_
  refine jj_iload_n C dX11_printWord_2 rfl ?_
  refine jj_aload_n C dX11_printWord_3 rfl ?_
  refine jq_callVs (rest := [.int 5]) C (ct_J0_length_8abf5_10 hl D cA ak) [] [0, 1] rfl rfl (by decide) (by decide) (by decide) 34 (by decide) rfl jw_720 jw_721 jw_722 jw_715 jw_719 jn_J0_length_8abf5 rfl (jj_le rfl) (jj_le rfl) (jj_le rfl) (jj_le rfl) (jj_le rfl) dX11_printWord_4 rfl (fun _ _ hX => hX.elim) (fun w1 r O_32 => ?_)
  obtain ⟨rfl, rfl⟩ := O_32
  refine jj_apd rfl ?_
  refine jj_icmp_geF (tgt := 25) C dX11_printWord_7 (by decide) (by decide) ?_
  refine jj_aload_n C dX11_printWord_10 rfl ?_
  refine jj_aload_n C dX11_printWord_11 rfl ?_
  refine jj_iload_n C dX11_printWord_12 rfl ?_
  refine jq_callVs (rest := [.ref h0]) C (ct_J0_charAt_5068e_23 hl D cA ak) [] [0, 1] rfl rfl (by decide) (by decide) (by decide) 34 (by decide) rfl jw_948 jw_915 jw_916 jw_715 jw_913 jn_J0_charAt_5068e rfl (jj_le rfl) (jj_le rfl) (jj_le rfl) (jj_le rfl) (jj_le rfl) dX11_printWord_13 rfl (fun _ _ hX => hX.elim) (fun w1 r O_34 => ?_)
  obtain ⟨rfl, rfl⟩ := O_34
  refine jj_apd rfl ?_
  refine jq_callV (rest := []) C (ct_X11_print_11 hl D cA ak h0 h1 h2 h3 h4 h5 h6 h7 h8 h9 h10 h11 h12) [0, 1] [] rfl rfl (by decide) (by decide) (by decide) 0 rfl rfl rfl jw_950 jw_951 jw_952 jw_224 jw_949 jn_X11_print rfl (jj_le rfl) (jj_le rfl) (jj_le rfl) (jj_le rfl) (jj_le rfl) dX11_printWord_16 rfl (fun _ _ hX => hX.elim) (fun w1 r O_36 => ?_)
  obtain ⟨rfl, rfl⟩ := O_36
  refine jj_apd rfl ?_
  refine jj_iinc (v := 6) C dX11_printWord_19 rfl (by decide) (by decide) rfl ?_
  refine jj_goto (tgt := 2) C dX11_printWord_22 (by decide) ?_
  refine jj_iload_n C dX11_printWord_2 rfl ?_
  refine jj_aload_n C dX11_printWord_3 rfl ?_
  refine jq_callVs (rest := [.int 6]) C (ct_J0_length_8abf5_10 hl D cA ak) [] [0, 1] rfl rfl (by decide) (by decide) (by decide) 34 (by decide) rfl jw_720 jw_721 jw_722 jw_715 jw_719 jn_J0_length_8abf5 rfl (jj_le rfl) (jj_le rfl) (jj_le rfl) (jj_le rfl) (jj_le rfl) dX11_printWord_4 rfl (fun _ _ hX => hX.elim) (fun w1 r O_38 => ?_)
  obtain ⟨rfl, rfl⟩ := O_38
  refine jj_apd rfl ?_
  refine jj_icmp_geF (tgt := 25) C dX11_printWord_7 (by decide) (by decide) ?_
  refine jj_aload_n C dX11_printWord_10 rfl ?_
  refine jj_aload_n C dX11_printWord_11 rfl ?_
  refine jj_iload_n C dX11_printWord_12 rfl ?_
  refine jq_callVs (rest := [.ref h0]) C (ct_J0_charAt_5068e_24 hl D cA ak) [] [0, 1] rfl rfl (by decide) (by decide) (by decide) 34 (by decide) rfl jw_948 jw_915 jw_916 jw_715 jw_913 jn_J0_charAt_5068e rfl (jj_le rfl) (jj_le rfl) (jj_le rfl) (jj_le rfl) (jj_le rfl) dX11_printWord_13 rfl (fun _ _ hX => hX.elim) (fun w1 r O_40 => ?_)
  obtain ⟨rfl, rfl⟩ := O_40
  refine jj_apd rfl ?_
  refine jq_callV (rest := []) C (ct_X11_print_12 hl D cA ak h0 h1 h2 h3 h4 h5 h6 h7 h8 h9 h10 h11 h12) [0, 1] [] rfl rfl (by decide) (by decide) (by decide) 0 rfl rfl rfl jw_950 jw_951 jw_952 jw_224 jw_949 jn_X11_print rfl (jj_le rfl) (jj_le rfl) (jj_le rfl) (jj_le rfl) (jj_le rfl) dX11_printWord_16 rfl (fun _ _ hX => hX.elim) (fun w1 r O_42 => ?_)
  obtain ⟨rfl, rfl⟩ := O_42
  refine jj_apd rfl ?_
  refine jj_iinc (v := 7) C dX11_printWord_19 rfl (by decide) (by decide) rfl ?_
  refine jj_goto (tgt := 2) C dX11_printWord_22 (by decide) ?_
  refine jj_iload_n C dX11_printWord_2 rfl ?_
  refine jj_aload_n C dX11_printWord_3 rfl ?_
  refine jq_callVs (rest := [.int 7]) C (ct_J0_length_8abf5_10 hl D cA ak) [] [0, 1] rfl rfl (by decide) (by decide) (by decide) 34 (by decide) rfl jw_720 jw_721 jw_722 jw_715 jw_719 jn_J0_length_8abf5 rfl (jj_le rfl) (jj_le rfl) (jj_le rfl) (jj_le rfl) (jj_le rfl) dX11_printWord_4 rfl (fun _ _ hX => hX.elim) (fun w1 r O_44 => ?_)
  obtain ⟨rfl, rfl⟩ := O_44
  refine jj_apd rfl ?_
  refine jj_icmp_geF (tgt := 25) C dX11_printWord_7 (by decide) (by decide) ?_
  refine jj_aload_n C dX11_printWord_10 rfl ?_
  refine jj_aload_n C dX11_printWord_11 rfl ?_
  refine jj_iload_n C dX11_printWord_12 rfl ?_
  refine jq_callVs (rest := [.ref h0]) C (ct_J0_charAt_5068e_25 hl D cA ak) [] [0, 1] rfl rfl (by decide) (by decide) (by decide) 34 (by decide) rfl jw_948 jw_915 jw_916 jw_715 jw_913 jn_J0_charAt_5068e rfl (jj_le rfl) (jj_le rfl) (jj_le rfl) (jj_le rfl) (jj_le rfl) dX11_printWord_13 rfl (fun _ _ hX => hX.elim) (fun w1 r O_46 => ?_)
  obtain ⟨rfl, rfl⟩ := O_46
  refine jj_apd rfl ?_
  refine jq_callV (rest := []) C (ct_X11_print_13 hl D cA ak h0 h1 h2 h3 h4 h5 h6 h7 h8 h9 h10 h11 h12) [0, 1] [] rfl rfl (by decide) (by decide) (by decide) 0 rfl rfl rfl jw_950 jw_951 jw_952 jw_224 jw_949 jn_X11_print rfl (jj_le rfl) (jj_le rfl) (jj_le rfl) (jj_le rfl) (jj_le rfl) dX11_printWord_16 rfl (fun _ _ hX => hX.elim) (fun w1 r O_48 => ?_)
  obtain ⟨rfl, rfl⟩ := O_48
  refine jj_apd rfl ?_
  refine jj_iinc (v := 8) C dX11_printWord_19 rfl (by decide) (by decide) rfl ?_
  refine jj_goto (tgt := 2) C dX11_printWord_22 (by decide) ?_
  refine jj_iload_n C dX11_printWord_2 rfl ?_
  refine jj_aload_n C dX11_printWord_3 rfl ?_
  refine jq_callVs (rest := [.int 8]) C (ct_J0_length_8abf5_10 hl D cA ak) [] [0, 1] rfl rfl (by decide) (by decide) (by decide) 34 (by decide) rfl jw_720 jw_721 jw_722 jw_715 jw_719 jn_J0_length_8abf5 rfl (jj_le rfl) (jj_le rfl) (jj_le rfl) (jj_le rfl) (jj_le rfl) dX11_printWord_4 rfl (fun _ _ hX => hX.elim) (fun w1 r O_50 => ?_)
  obtain ⟨rfl, rfl⟩ := O_50
  refine jj_apd rfl ?_
  refine jj_icmp_geT (tgt := 25) C dX11_printWord_7 (by decide) (by decide) ?_
  exact jj_vret C ⟨rfl, rfl⟩ dX11_printWord_25 (jj_le rfl) (jj_le rfl)


set_option maxHeartbeats 4000000 in
set_option maxRecDepth 100000 in
theorem ct_X11_netAll_3 {l : Launch} (hl : l.stackTraces = false) (D : va_G) (cA : Nat → ClassId) (ak : (Nat → Nat) × (Nat → Nat)) (h0 h1 h2 h3 h4 h5 h6 h7 h8 h9 h10 h11 h12 : Nat) : jj_M l D cA ak yX11_netAll (.code yX11_netAll cX11_netAll 4 (some .long)) 0 0 0 0 [(h0, .inr (12, [.ref h1, .ref h2, .ref h3, .ref h4, .ref h5, .ref h6, .int 0, .int 0, .long 0, .long 0, .ref h7, .ref h8, .ref h9, .int 0, .int 0, .int 0, .int 0, .int 0, .int (-1), .int 0, .int 0, .ref h10, .ref h11, .ref h12, .int 13])), (h1, .inl (cA 2, 334, .inr (.inl (vp_updL (vp_updL (fun _ => 0) 0 1) 4 100))))] [.ref h0] (fun (w : va_W) (r : Option Value) => (w = [(h0, .inr (12, [.ref h1, .ref h2, .ref h3, .ref h4, .ref h5, .ref h6, .int 0, .int 0, .long 0, .long 0, .ref h7, .ref h8, .ref h9, .int 0, .int 0, .int 0, .int 0, .int 0, .int (-1), .int 0, .int 0, .ref h10, .ref h11, .ref h12, .int 13])), (h1, .inl (cA 2, 334, .inr (.inl (vp_updL (vp_updL (fun _ => 0) 0 1) 4 100))))] ∧ r = some (.long 0))) jj_noX := by
  refine jj_start hl (by decide) jw_615 (jj_le rfl) ?_
  intro p e s m args below meth c A hargs hA C hex hmn
  refine jj_lconst (v := 0) C dX11_netAll_0 (by decide) ?_
  refine jj_lstore_n C dX11_netAll_1 (by decide) rfl ?_
  refine jj_iconst (v := 0) C dX11_netAll_2 (by decide) ?_
  refine jj_istore_n C dX11_netAll_3 (by decide) rfl ?_
  refine jj_iload_n C dX11_netAll_4 rfl ?_
  refine jj_i2l (v := 0) C dX11_netAll_5 (by decide) ?_
  refine jj_aload_n C dX11_netAll_6 rfl ?_
  refine jj_get C jk_12 0 (by decide) jw_181 0 rfl rfl dX11_netAll_7 ?_
  refine jj_bipush (v := 6) C dX11_netAll_10 (by decide) ?_
  refine jj_lald (v := 0) C 1 rfl (vp_in_iff.mpr (by decide)) rfl dX11_netAll_12 ?_
  refine jj_lcmp_geT (tgt := 34) C dX11_netAll_13 dX11_netAll_14 (by decide) (by decide) ?_
  refine jj_lload_n C dX11_netAll_34 rfl ?_
  exact jj_lret C ⟨rfl, rfl⟩ dX11_netAll_35 (jj_le rfl) (jj_le rfl)


set_option maxHeartbeats 4000000 in
set_option maxRecDepth 100000 in
theorem ct_X11_print_14 {l : Launch} (hl : l.stackTraces = false) (D : va_G) (cA : Nat → ClassId) (ak : (Nat → Nat) × (Nat → Nat)) (h0 h1 h2 h3 h4 h5 h6 h7 h8 h9 h10 h11 h12 : Nat) : jj_M l D cA ak yX11_print (.code yX11_print cX11_print 2 none) 0 0 0 0 [(h0, .inr (12, [.ref h2, .ref h3, .ref h4, .ref h5, .ref h6, .ref h7, .int 0, .int 0, .long 0, .long 0, .ref h8, .ref h9, .ref h10, .int 0, .int 0, .int 0, .int 0, .int 0, .int (-1), .int 0, .int 0, .ref h11, .ref h12, .ref h1, .int 13])), (h1, .inl (cA 0, 2400, .inl (upd (upd (upd (upd (upd (upd (upd (upd (upd (upd (upd (upd (upd (fun _ => 0) 0 100) 1 97) 2 121) 3 32) 4 48) 5 32) 6 97) 7 115) 8 115) 9 101) 10 116) 11 115) 12 32)))] [.ref h0, .int 48] (fun (w : va_W) (r : Option Value) => (w = [(h0, .inr (12, [.ref h2, .ref h3, .ref h4, .ref h5, .ref h6, .ref h7, .int 0, .int 0, .long 0, .long 0, .ref h8, .ref h9, .ref h10, .int 0, .int 0, .int 0, .int 0, .int 0, .int (-1), .int 0, .int 0, .ref h11, .ref h12, .ref h1, .int 14])), (h1, .inl (cA 0, 2400, .inl (upd (upd (upd (upd (upd (upd (upd (upd (upd (upd (upd (upd (upd (upd (fun _ => 0) 0 100) 1 97) 2 121) 3 32) 4 48) 5 32) 6 97) 7 115) 8 115) 9 101) 10 116) 11 115) 12 32) 13 48)))] ∧ r = none)) jj_noX := by
  refine jj_start hl (by decide) jw_949 (jj_le rfl) ?_
  intro p e s m args below meth c A hargs hA C hex hmn
  refine jj_aload_n C dX11_print_0 rfl ?_
  refine jj_get C jk_12 23 (by decide) jw_220 0 rfl rfl dX11_print_1 ?_
  refine jj_aload_n C dX11_print_4 rfl ?_
  refine jj_get C jk_12 24 (by decide) jw_625 0 rfl rfl dX11_print_5 ?_
  refine jj_iload_n C dX11_print_8 rfl ?_
  refine jj_i2b (v := 48) C dX11_print_9 (by decide) ?_
  refine jj_bast C 1 rfl (vp_in_iff.mpr (by decide)) (g := (upd (upd (upd (upd (upd (upd (upd (upd (upd (upd (upd (upd (upd (upd (fun _ => 0) 0 100) 1 97) 2 121) 3 32) 4 48) 5 32) 6 97) 7 115) 8 115) 9 101) 10 116) 11 115) 12 32) 13 48)) rfl rfl dX11_print_10 ?_
  refine jj_aload_n C dX11_print_11 rfl ?_
  refine jj_dup C dX11_print_12 rfl ?_
  refine jj_get C jk_12 24 (by decide) jw_625 0 rfl rfl dX11_print_13 ?_
  refine jj_iconst (v := 1) C dX11_print_16 (by decide) ?_
  refine jj_iadd (v := 14) C dX11_print_17 (by decide) ?_
  refine jj_put C jk_12 24 (by decide) jw_625 rfl 0 rfl rfl rfl rfl rfl dX11_print_18 ?_
  exact jj_vret C ⟨rfl, rfl⟩ dX11_print_21 (jj_le rfl) (jj_le rfl)


set_option maxHeartbeats 4000000 in
set_option maxRecDepth 100000 in
theorem ct_X11_printNumber_2 {l : Launch} (hl : l.stackTraces = false) (D : va_G) (cA : Nat → ClassId) (ak : (Nat → Nat) × (Nat → Nat)) (h0 h1 h2 h3 h4 h5 h6 h7 h8 h9 h10 h11 h12 : Nat) : jj_M l D cA ak yX11_printNumber (.code yX11_printNumber cX11_printNumber 3 none) 1 21 0 0 [(h0, .inr (12, [.ref h2, .ref h3, .ref h4, .ref h5, .ref h6, .ref h7, .int 0, .int 0, .long 0, .long 0, .ref h8, .ref h9, .ref h10, .int 0, .int 0, .int 0, .int 0, .int 0, .int (-1), .int 0, .int 0, .ref h11, .ref h12, .ref h1, .int 13])), (h1, .inl (cA 0, 2400, .inl (upd (upd (upd (upd (upd (upd (upd (upd (upd (upd (upd (upd (upd (fun _ => 0) 0 100) 1 97) 2 121) 3 32) 4 48) 5 32) 6 97) 7 115) 8 115) 9 101) 10 116) 11 115) 12 32)))] [.ref h0, .long 0] (fun (w : va_W) (r : Option Value) => (w = [(h0, .inr (12, [.ref h2, .ref h3, .ref h4, .ref h5, .ref h6, .ref h7, .int 0, .int 0, .long 0, .long 0, .ref h8, .ref h9, .ref h10, .int 0, .int 0, .int 0, .int 0, .int 0, .int (-1), .int 0, .int 0, .ref h11, .ref h12, .ref h1, .int 14])), (h1, .inl (cA 0, 2400, .inl (upd (upd (upd (upd (upd (upd (upd (upd (upd (upd (upd (upd (upd (upd (fun _ => 0) 0 100) 1 97) 2 121) 3 32) 4 48) 5 32) 6 97) 7 115) 8 115) 9 101) 10 116) 11 115) 12 32) 13 48)))] ∧ r = none)) jj_noX := by
  refine jj_start hl (by decide) jw_960 (jj_le rfl) ?_
  intro p e s m args below meth c A hargs hA C hex hmn
  refine jj_lload_n C dX11_printNumber_0 rfl ?_
  refine jj_ldc2 (v := 9) C dX11_printNumber_1 jw_481 ?_
  refine jj_lcmp_leT (tgt := 17) C dX11_printNumber_4 dX11_printNumber_5 (by decide) (by decide) ?_
  refine jj_aload_n C dX11_printNumber_17 rfl ?_
  refine jj_ldc2 (v := 48) C dX11_printNumber_18 jw_698 ?_
  refine jj_lload_n C dX11_printNumber_21 rfl ?_
  refine jj_ldc2 (v := 10) C dX11_printNumber_22 jw_959 ?_
  refine jj_lrem (v := 0) C dX11_printNumber_25 (by decide) (by decide) ?_
  refine jj_ladd (v := 48) C dX11_printNumber_26 (by decide) ?_
  refine jj_l2i (v := 48) C dX11_printNumber_27 (by decide) ?_
  refine jj_i2c (v := 48) C dX11_printNumber_28 (by decide) ?_
  refine jq_callV (rest := []) C (ct_X11_print_14 hl D cA ak h0 h1 h2 h3 h4 h5 h6 h7 h8 h9 h10 h11 h12) [0, 1] [] rfl rfl (by decide) (by decide) (by decide) 0 rfl rfl rfl jw_950 jw_951 jw_952 jw_224 jw_949 jn_X11_print rfl (jj_le rfl) (jj_le rfl) (jj_le rfl) (jj_le rfl) (jj_le rfl) dX11_printNumber_29 rfl (fun _ _ hX => hX.elim) (fun w1 r O_2 => ?_)
  obtain ⟨rfl, rfl⟩ := O_2
  refine jj_apd rfl ?_
  exact jj_vret C ⟨rfl, rfl⟩ dX11_printNumber_32 (jj_le rfl) (jj_le rfl)


set_option maxHeartbeats 4000000 in
set_option maxRecDepth 100000 in
theorem ct_X11_print_15 {l : Launch} (hl : l.stackTraces = false) (D : va_G) (cA : Nat → ClassId) (ak : (Nat → Nat) × (Nat → Nat)) (h0 h1 h2 h3 h4 h5 h6 h7 h8 h9 h10 h11 h12 : Nat) : jj_M l D cA ak yX11_print (.code yX11_print cX11_print 2 none) 0 0 0 0 [(h0, .inr (12, [.ref h2, .ref h3, .ref h4, .ref h5, .ref h6, .ref h7, .int 0, .int 0, .long 0, .long 0, .ref h8, .ref h9, .ref h10, .int 0, .int 0, .int 0, .int 0, .int 0, .int (-1), .int 0, .int 0, .ref h11, .ref h12, .ref h1, .int 14])), (h1, .inl (cA 0, 2400, .inl (upd (upd (upd (upd (upd (upd (upd (upd (upd (upd (upd (upd (upd (upd (fun _ => 0) 0 100) 1 97) 2 121) 3 32) 4 48) 5 32) 6 97) 7 115) 8 115) 9 101) 10 116) 11 115) 12 32) 13 48)))] [.ref h0, .int 10] (fun (w : va_W) (r : Option Value) => (w = [(h0, .inr (12, [.ref h2, .ref h3, .ref h4, .ref h5, .ref h6, .ref h7, .int 0, .int 0, .long 0, .long 0, .ref h8, .ref h9, .ref h10, .int 0, .int 0, .int 0, .int 0, .int 0, .int (-1), .int 0, .int 0, .ref h11, .ref h12, .ref h1, .int 15])), (h1, .inl (cA 0, 2400, .inl (upd (upd (upd (upd (upd (upd (upd (upd (upd (upd (upd (upd (upd (upd (upd (fun _ => 0) 0 100) 1 97) 2 121) 3 32) 4 48) 5 32) 6 97) 7 115) 8 115) 9 101) 10 116) 11 115) 12 32) 13 48) 14 10)))] ∧ r = none)) jj_noX := by
  refine jj_start hl (by decide) jw_949 (jj_le rfl) ?_
  intro p e s m args below meth c A hargs hA C hex hmn
  refine jj_aload_n C dX11_print_0 rfl ?_
  refine jj_get C jk_12 23 (by decide) jw_220 0 rfl rfl dX11_print_1 ?_
  refine jj_aload_n C dX11_print_4 rfl ?_
  refine jj_get C jk_12 24 (by decide) jw_625 0 rfl rfl dX11_print_5 ?_
  refine jj_iload_n C dX11_print_8 rfl ?_
  refine jj_i2b (v := 10) C dX11_print_9 (by decide) ?_
  refine jj_bast C 1 rfl (vp_in_iff.mpr (by decide)) (g := (upd (upd (upd (upd (upd (upd (upd (upd (upd (upd (upd (upd (upd (upd (upd (fun _ => 0) 0 100) 1 97) 2 121) 3 32) 4 48) 5 32) 6 97) 7 115) 8 115) 9 101) 10 116) 11 115) 12 32) 13 48) 14 10)) rfl rfl dX11_print_10 ?_
  refine jj_aload_n C dX11_print_11 rfl ?_
  refine jj_dup C dX11_print_12 rfl ?_
  refine jj_get C jk_12 24 (by decide) jw_625 0 rfl rfl dX11_print_13 ?_
  refine jj_iconst (v := 1) C dX11_print_16 (by decide) ?_
  refine jj_iadd (v := 15) C dX11_print_17 (by decide) ?_
  refine jj_put C jk_12 24 (by decide) jw_625 rfl 0 rfl rfl rfl rfl rfl dX11_print_18 ?_
  exact jj_vret C ⟨rfl, rfl⟩ dX11_print_21 (jj_le rfl) (jj_le rfl)


set_option maxHeartbeats 4000000 in
set_option maxRecDepth 100000 in
theorem ct_X11_writeReport_1 {l : Launch} (hl : l.stackTraces = false) (D : va_G) (cA : Nat → ClassId) (ak : (Nat → Nat) × (Nat → Nat)) (h0 h1 h2 h3 h4 h5 h6 h7 h8 h9 h10 h11 h12 : Nat) : jj_M l D cA ak yX11_writeReport (.code yX11_writeReport cX11_writeReport 2 (some .int)) 5 107 0 0 [(h0, .inr (12, [.ref h1, .ref h3, .ref h4, .ref h5, .ref h6, .ref h7, .int 0, .int 0, .long 0, .long 0, .ref h8, .ref h9, .ref h10, .int 0, .int 0, .int 0, .int 0, .int 0, .int (-1), .int 0, .int 0, .ref h11, .ref h12, .ref h2, .int 0])), (h1, .inl (cA 2, 334, .inr (.inl (vp_updL (vp_updL (fun _ => 0) 0 1) 4 100)))), (h2, .inl (cA 0, 2400, .inl (fun _ => 0)))] [.ref h0] (fun (w : va_W) (r : Option Value) => (w = [(h1, .inl (cA 2, 334, .inr (.inl (vp_updL (vp_updL (fun _ => 0) 0 1) 4 100)))), (h0, .inr (12, [.ref h1, .ref h3, .ref h4, .ref h5, .ref h6, .ref h7, .int 0, .int 0, .long 0, .long 0, .ref h8, .ref h9, .ref h10, .int 0, .int 0, .int 0, .int 0, .int 0, .int (-1), .int 0, .int 0, .ref h11, .ref h12, .ref h2, .int 15])), (h2, .inl (cA 0, 2400, .inl (upd (upd (upd (upd (upd (upd (upd (upd (upd (upd (upd (upd (upd (upd (upd (fun _ => 0) 0 100) 1 97) 2 121) 3 32) 4 48) 5 32) 6 97) 7 115) 8 115) 9 101) 10 116) 11 115) 12 32) 13 48) 14 10)))] ∧ r = some (.int 15))) jj_noX := by
  refine jj_start hl (by decide) jw_965 (jj_le rfl) ?_
  intro p e s m args below meth c A hargs hA C hex hmn
  refine jj_aload_n C dX11_writeReport_0 rfl ?_
  refine jj_iconst (v := 0) C dX11_writeReport_1 (by decide) ?_
  refine jj_put C jk_12 7 (by decide) jw_236 rfl 0 rfl rfl rfl rfl rfl dX11_writeReport_2 ?_
  refine jj_aload_n C dX11_writeReport_5 rfl ?_
  refine jj_iconst (v := 0) C dX11_writeReport_6 (by decide) ?_
  refine jj_put C jk_12 24 (by decide) jw_625 rfl 0 rfl rfl rfl rfl rfl dX11_writeReport_7 ?_
  refine jj_aload_n C dX11_writeReport_10 rfl ?_
  refine jj_ldcsw (k := 33) (tx := "day ") C dX11_writeReport_11 (by decide +kernel) ?_
  refine jq_callV (rest := []) C (ct_X11_printWord_1 hl D cA ak h0 h2 h1 h3 h4 h5 h6 h7 h8 h9 h10 h11 h12) [0, 2] [1] rfl rfl (by decide) (by decide) (by decide) 0 rfl rfl rfl jw_955 jw_956 jw_957 jw_224 jw_954 jn_X11_printWord rfl (jj_le rfl) (jj_le rfl) (jj_le rfl) (jj_le rfl) (jj_le rfl) dX11_writeReport_14 rfl (fun _ _ hX => hX.elim) (fun w1 r O_2 => ?_)
  obtain ⟨rfl, rfl⟩ := O_2
  refine jj_apd rfl ?_
  refine jj_aload_n C dX11_writeReport_17 rfl ?_
  refine jj_aload_n C dX11_writeReport_18 rfl ?_
  refine jj_get C jk_12 0 (by decide) jw_181 1 rfl rfl dX11_writeReport_19 ?_
  refine jj_iconst (v := 5) C dX11_writeReport_22 (by decide) ?_
  refine jj_lald (v := 0) C 0 rfl (vp_in_iff.mpr (by decide)) rfl dX11_writeReport_23 ?_
  refine jq_callV (rest := []) C (ct_X11_printNumber_1 hl D cA ak h0 h2 h1 h3 h4 h5 h6 h7 h8 h9 h10 h11 h12) [1, 2] [0] rfl rfl (by decide) (by decide) (by decide) 0 rfl rfl rfl jw_961 jw_962 jw_963 jw_224 jw_960 jn_X11_printNumber rfl (jj_le rfl) (jj_le rfl) (jj_le rfl) (jj_le rfl) (jj_le rfl) dX11_writeReport_24 rfl (fun _ _ hX => hX.elim) (fun w1 r O_4 => ?_)
  obtain ⟨rfl, rfl⟩ := O_4
  refine jj_apd rfl ?_
  refine jj_aload_n C dX11_writeReport_27 rfl ?_
  refine jj_ldcsw (k := 34) (tx := " assets ") C dX11_writeReport_28 (by decide +kernel) ?_
  refine jq_callV (rest := []) C (ct_X11_printWord_2 hl D cA ak h0 h2 h1 h3 h4 h5 h6 h7 h8 h9 h10 h11 h12) [1, 2] [0] rfl rfl (by decide) (by decide) (by decide) 0 rfl rfl rfl jw_955 jw_956 jw_957 jw_224 jw_954 jn_X11_printWord rfl (jj_le rfl) (jj_le rfl) (jj_le rfl) (jj_le rfl) (jj_le rfl) dX11_writeReport_31 rfl (fun _ _ hX => hX.elim) (fun w1 r O_6 => ?_)
  obtain ⟨rfl, rfl⟩ := O_6
  refine jj_apd rfl ?_
  refine jj_aload_n C dX11_writeReport_34 rfl ?_
  refine jj_aload_n C dX11_writeReport_35 rfl ?_
  refine jq_callV (rest := [.ref h0]) C (ct_X11_netAll_3 hl D cA ak h0 h1 h3 h4 h5 h6 h7 h8 h9 h10 h11 h12 h2) [1, 0] [2] rfl rfl (by decide) (by decide) (by decide) 0 rfl rfl rfl jw_616 jw_617 jw_618 jw_224 jw_615 jn_X11_netAll rfl (jj_le rfl) (jj_le rfl) (jj_le rfl) (jj_le rfl) (jj_le rfl) dX11_writeReport_36 rfl (fun _ _ hX => hX.elim) (fun w1 r O_8 => ?_)
  obtain ⟨rfl, rfl⟩ := O_8
  refine jj_apd rfl ?_
  refine jq_callV (rest := []) C (ct_X11_printNumber_2 hl D cA ak h0 h2 h1 h3 h4 h5 h6 h7 h8 h9 h10 h11 h12) [1, 0] [2] rfl rfl (by decide) (by decide) (by decide) 0 rfl rfl rfl jw_961 jw_962 jw_963 jw_224 jw_960 jn_X11_printNumber rfl (jj_le rfl) (jj_le rfl) (jj_le rfl) (jj_le rfl) (jj_le rfl) dX11_writeReport_39 rfl (fun _ _ hX => hX.elim) (fun w1 r O_10 => ?_)
  obtain ⟨rfl, rfl⟩ := O_10
  refine jj_apd rfl ?_
  refine jj_aload_n C dX11_writeReport_42 rfl ?_
  refine jj_bipush (v := 10) C dX11_writeReport_43 (by decide) ?_
  refine jq_callV (rest := []) C (ct_X11_print_15 hl D cA ak h0 h2 h1 h3 h4 h5 h6 h7 h8 h9 h10 h11 h12) [1, 2] [0] rfl rfl (by decide) (by decide) (by decide) 0 rfl rfl rfl jw_950 jw_951 jw_952 jw_224 jw_949 jn_X11_print rfl (jj_le rfl) (jj_le rfl) (jj_le rfl) (jj_le rfl) (jj_le rfl) dX11_writeReport_45 rfl (fun _ _ hX => hX.elim) (fun w1 r O_12 => ?_)
  obtain ⟨rfl, rfl⟩ := O_12
  refine jj_apd rfl ?_
  refine jj_iconst (v := 0) C dX11_writeReport_48 (by decide) ?_
  refine jj_istore_n C dX11_writeReport_49 (by decide) rfl ?_
  refine jj_iload_n C dX11_writeReport_50 rfl ?_
  refine jj_i2l (v := 0) C dX11_writeReport_51 (by decide) ?_
  refine jj_aload_n C dX11_writeReport_52 rfl ?_
  refine jj_get C jk_12 0 (by decide) jw_181 1 rfl rfl dX11_writeReport_53 ?_
  refine jj_bipush (v := 6) C dX11_writeReport_56 (by decide) ?_
  refine jj_lald (v := 0) C 0 rfl (vp_in_iff.mpr (by decide)) rfl dX11_writeReport_58 ?_
  refine jj_lcmp_geT (tgt := 77) C dX11_writeReport_59 dX11_writeReport_60 (by decide) (by decide) ?_
  refine jj_aload_n C dX11_writeReport_77 rfl ?_
  refine jj_get C jk_12 24 (by decide) jw_625 1 rfl rfl dX11_writeReport_78 ?_
  exact jj_iret C ⟨rfl, rfl⟩ dX11_writeReport_81 (jj_le rfl) (jj_le rfl)


set_option maxHeartbeats 4000000 in
set_option maxRecDepth 100000 in
theorem ct_X10_undoDepth_1 {l : Launch} (hl : l.stackTraces = false) (D : va_G) (cA : Nat → ClassId) (ak : (Nat → Nat) × (Nat → Nat)) (h0 h1 h2 h3 h4 h5 h6 : Nat) : jj_M l D cA ak yX10_undoDepth (.code yX10_undoDepth cX10_undoDepth 1 (some .int)) 0 0 0 0 [(h0, .inr (11, [.ref h1, .int 0, .int (-1), .ref h2, .ref h3, .ref h4, .ref h5, .int 0, .int 0, .ref h6]))] [.ref h0] (fun (w : va_W) (r : Option Value) => (r = some (.int 0))) jj_noX := by
  refine jj_start hl (by decide) jw_966 (jj_le rfl) ?_
  intro p e s m args below meth c A hargs hA C hex hmn
  refine jj_aload_n C dX10_undoDepth_0 rfl ?_
  refine jj_get C jk_11 8 (by decide) jw_162 0 rfl rfl dX10_undoDepth_1 ?_
  exact jj_iret C rfl dX10_undoDepth_4 (jj_le rfl) (jj_le rfl)


set_option maxHeartbeats 4000000 in
set_option maxRecDepth 100000 in
theorem ct_X11_undoDepth_1 {l : Launch} (hl : l.stackTraces = false) (D : va_G) (cA : Nat → ClassId) (ak : (Nat → Nat) × (Nat → Nat)) (h0 h1 h2 h3 h4 h5 h6 h7 h8 h9 h10 h11 h12 : Nat) : jj_M l D cA ak yX11_undoDepth (.code yX11_undoDepth cX11_undoDepth 1 (some .int)) 0 0 0 0 [(h0, .inr (12, [.ref h1, .ref h2, .ref h3, .ref h4, .ref h5, .ref h6, .int 0, .int 0, .long 0, .long 0, .ref h7, .ref h8, .ref h9, .int 0, .int 0, .int 0, .int 0, .int 0, .int (-1), .int 0, .int 0, .ref h10, .ref h11, .ref h12, .int 0]))] [.ref h0] (fun (w : va_W) (r : Option Value) => (w = [(h0, .inr (12, [.ref h1, .ref h2, .ref h3, .ref h4, .ref h5, .ref h6, .int 0, .int 0, .long 0, .long 0, .ref h7, .ref h8, .ref h9, .int 0, .int 0, .int 0, .int 0, .int 0, .int (-1), .int 0, .int 0, .ref h10, .ref h11, .ref h12, .int 0]))] ∧ r = some (.int 0))) jj_noX := by
  refine jj_start hl (by decide) jw_967 (jj_le rfl) ?_
  intro p e s m args below meth c A hargs hA C hex hmn
  refine jj_aload_n C dX11_undoDepth_0 rfl ?_
  refine jj_iconst (v := 0) C dX11_undoDepth_1 (by decide) ?_
  refine jj_put C jk_12 7 (by decide) jw_236 rfl 0 rfl rfl rfl rfl rfl dX11_undoDepth_2 ?_
  refine jj_aload_n C dX11_undoDepth_5 rfl ?_
  refine jj_get C jk_12 6 (by decide) jw_330 0 rfl rfl dX11_undoDepth_6 ?_
  exact jj_iret C ⟨rfl, rfl⟩ dX11_undoDepth_9 (jj_le rfl) (jj_le rfl)


set_option maxHeartbeats 4000000 in
set_option maxRecDepth 100000 in
theorem ct_L_appendText_1 {l : Launch} (hl : l.stackTraces = false) (D : va_G) (cA : Nat → ClassId) (ak : (Nat → Nat) × (Nat → Nat)) (h0 h1 h2 h3 h4 h5 h6 h7 h8 : Nat) (a0 : Int32) (a1 : Int32) (a2 : Int32) (a3 : Int32) (a4 : Int32) : jj_M l D cA ak yL_appendText (.codeWith yL_appendText cL_appendText 8 (some .int) [(0, 16, 19, 13)]) 2 47 0 0 [(h0, .inr (11, [.ref h2, .int 0, .int (-1), .ref h4, .ref h5, .ref h6, .ref h7, .int 0, .int 0, .ref h8])), (h1, .inl (cA 2, 1, .inr (.inl (fun _ => 0)))), (h2, .inr (10, [.ref h3, .int 0, .int 0, .int 0, .int 0, .int 0, .int (-1)])), (h3, .inl (cA 1, 400, .inl (fun _ => 0)))] [.ref h0, .int a0, .int a1, .int a2, .int a3, .int a4, .ref h1] (fun (w : va_W) (r : Option Value) => (w = [(h1, .inl (cA 2, 1, .inr (.inl (vp_updL (fun _ => 0) 0 20))))] ∧ r = some (.int 0))) jj_noX := by
  refine jj_startW hl (by decide) jw_983 (jj_le rfl) ?_
  intro p e s m args below meth c A hargs hA C htab hmn
  refine jj_aload C dL_appendText_0 rfl ?_
  refine jj_iconst (v := 0) C dL_appendText_2 (by decide) ?_
  refine jj_aload_n C dL_appendText_3 rfl ?_
  refine jj_iload_n C dL_appendText_4 rfl ?_
  refine jj_iload_n C dL_appendText_5 rfl ?_
  refine jj_iload_n C dL_appendText_6 rfl ?_
  refine jj_iload C dL_appendText_7 rfl ?_
  refine jj_iload C dL_appendText_9 rfl ?_
  refine jq_callV (rest := [.int 0, .ref h1]) C (ct_X10_appendText_1 hl D cA ak h0 h2 h3 h4 h5 h6 h7 h8 a0 a1 a2 a3 a4) [0, 2, 3] [1] rfl rfl (by decide) (by decide) (by decide) 0 rfl rfl rfl jw_979 jw_980 jw_981 jw_271 jw_234 jn_X10_appendText rfl (jj_le rfl) (jj_le rfl) (jj_le rfl) (jj_le rfl) (jj_le rfl) dL_appendText_11 rfl (fun _ _ hX => hX.elim) (fun w1 r O_2 => ?_)
  obtain rfl := O_2
  refine jj_left ?_
  refine jj_i2l (v := 20) C dL_appendText_14 (by decide) ?_
  refine jj_last C 0 rfl (vp_in_iff.mpr (by decide)) (g := (vp_updL (fun _ => 0) 0 20)) rfl rfl dL_appendText_15 ?_
  refine jj_goto (tgt := 23) C dL_appendText_16 (by decide) ?_
  refine jj_iconst (v := 0) C dL_appendText_23 (by decide) ?_
  exact jj_iret C ⟨rfl, rfl⟩ dL_appendText_24 (jj_le rfl) (jj_le rfl)


set_option maxHeartbeats 4000000 in
set_option maxRecDepth 100000 in
theorem ct_X11_thrown_1 {l : Launch} (hl : l.stackTraces = false) (D : va_G) (cA : Nat → ClassId) (ak : (Nat → Nat) × (Nat → Nat)) (h0 h1 h2 h3 h4 h5 h6 h7 h8 h9 h10 h11 h12 : Nat) : jj_M l D cA ak yX11_thrown (.code yX11_thrown cX11_thrown 1 (some .int)) 0 0 0 0 [(h0, .inr (12, [.ref h1, .ref h2, .ref h3, .ref h4, .ref h5, .ref h6, .int 0, .int 0, .long 0, .long 0, .ref h7, .ref h8, .ref h9, .int 20, .int 0, .int 0, .int 0, .int 0, .int (-1), .int 0, .int 0, .ref h10, .ref h11, .ref h12, .int 0]))] [.ref h0] (fun (w : va_W) (r : Option Value) => (w = [(h0, .inr (12, [.ref h1, .ref h2, .ref h3, .ref h4, .ref h5, .ref h6, .int 0, .int 0, .long 0, .long 0, .ref h7, .ref h8, .ref h9, .int 20, .int 0, .int 0, .int 0, .int 0, .int (-1), .int 0, .int 0, .ref h10, .ref h11, .ref h12, .int 0]))] ∧ r = some (.int 0))) jj_noX := by
  refine jj_start hl (by decide) jw_992 (jj_le rfl) ?_
  intro p e s m args below meth c A hargs hA C hex hmn
  refine jj_aload_n C dX11_thrown_0 rfl ?_
  refine jj_get C jk_12 7 (by decide) jw_236 0 rfl rfl dX11_thrown_1 ?_
  exact jj_iret C ⟨rfl, rfl⟩ dX11_thrown_4 (jj_le rfl) (jj_le rfl)


set_option maxHeartbeats 4000000 in
set_option maxRecDepth 100000 in
theorem ct_L_truncateText_1 {l : Launch} (hl : l.stackTraces = false) (D : va_G) (cA : Nat → ClassId) (ak : (Nat → Nat) × (Nat → Nat)) (h0 h1 h2 h3 h4 h5 h6 h7 h8 : Nat) (a0 : Int32) : jj_M l D cA ak yL_truncateText (.codeWith yL_truncateText cL_truncateText 4 (some .int) [(0, 9, 12, 19)]) 7 103 1 6 [(h0, .inr (11, [.ref h2, .int 0, .int (-1), .ref h3, .ref h4, .ref h5, .ref h6, .int 0, .int 0, .ref h7])), (h1, .inl (cA 2, 1, .inr (.inl (fun _ => 0)))), (h2, .inr (10, [.ref h8, .int 0, .int 0, .int 0, .int 0, .int 0, .int (-1)]))] [.ref h0, .int a0, .ref h1] (fun (w : va_W) (r : Option Value) => (a0 < 0 ∧ w = [(h1, .inl (cA 2, 1, .inr (.inl (fun _ => 0))))] ∧ r = some (.int 1)) ∨ (¬ a0 < 0 ∧ ¬ a0 ≤ 0 ∧ w = [(h1, .inl (cA 2, 1, .inr (.inl (fun _ => 0))))] ∧ r = some (.int 1)) ∨ (¬ a0 < 0 ∧ a0 ≤ 0 ∧ w = [(h1, .inl (cA 2, 1, .inr (.inl (vp_updL (fun _ => 0) 0 a0.toInt64))))] ∧ r = some (.int 0))) jj_noX := by
  refine jj_startW hl (by decide) jw_1002 (jj_le rfl) ?_
  intro p e s m args below meth c A hargs hA C htab hmn
  refine jj_aload_n C dL_truncateText_0 rfl ?_
  refine jj_iconst (v := 0) C dL_truncateText_1 (by decide) ?_
  refine jj_aload_n C dL_truncateText_2 rfl ?_
  refine jj_iload_n C dL_truncateText_3 rfl ?_
  refine jq_callV (rest := [.int 0, .ref h1]) C (ct_X10_truncateText_1 hl D cA ak h0 h2 h3 h4 h5 h6 h7 h8 a0) [0, 2] [1] rfl rfl (by decide) (by decide) (by decide) 0 rfl rfl rfl jw_997 jw_998 jw_999 jw_271 jw_245 jn_X10_truncateText rfl (jj_le rfl) (jj_le rfl) (jj_le rfl) (jj_le rfl) (jj_le rfl) dL_truncateText_4 rfl (fun E w1 X_1 => ?_) (fun w1 r O_2 => ?_)
  · rcases X_1 with ⟨rfl, c_3⟩ | ⟨rfl, c_4, c_5⟩
    · refine jj_leftY ?_
      refine jj_catch C [] (⟨0, 9, 12, 19⟩ : ExceptionTableEntry) [] (htab.trans rfl) (fun z hz => by cases hz) (by decide) (by decide) jw_1001 (by decide +kernel) (fun q9 => ?_)
      refine jj_astore_n C dL_truncateText_12 (by decide) rfl ?_
      refine jj_iconst (v := 1) C dL_truncateText_13 (by decide) ?_
      exact jj_iret C (Or.inl ⟨c_3, rfl, rfl⟩) dL_truncateText_14 (jj_le rfl) (jj_le rfl)
    · refine jj_leftY ?_
      refine jj_catch C [] (⟨0, 9, 12, 19⟩ : ExceptionTableEntry) [] (htab.trans rfl) (fun z hz => by cases hz) (by decide) (by decide) jw_1001 (by decide +kernel) (fun q9 => ?_)
      refine jj_astore_n C dL_truncateText_12 (by decide) rfl ?_
      refine jj_iconst (v := 1) C dL_truncateText_13 (by decide) ?_
      exact jj_iret C (Or.inr (Or.inl ⟨c_4, c_5, rfl, rfl⟩)) dL_truncateText_14 (jj_le rfl) (jj_le rfl)
  · obtain ⟨c_6, c_7, rfl⟩ := O_2
    refine jj_left ?_
    refine jj_i2l C dL_truncateText_7 rfl ?_
    refine jj_last C 0 rfl (vp_in_iff.mpr (by decide)) (g := (vp_updL (fun _ => 0) 0 a0.toInt64)) rfl rfl dL_truncateText_8 ?_
    refine jj_goto (tgt := 15) C dL_truncateText_9 (by decide) ?_
    refine jj_iconst (v := 0) C dL_truncateText_15 (by decide) ?_
    exact jj_iret C (Or.inr (Or.inr ⟨c_6, c_7, rfl, rfl⟩)) dL_truncateText_16 (jj_le rfl) (jj_le rfl)


set_option maxHeartbeats 4000000 in
set_option maxRecDepth 100000 in
theorem ct_X11_thrown_2 {l : Launch} (hl : l.stackTraces = false) (D : va_G) (cA : Nat → ClassId) (ak : (Nat → Nat) × (Nat → Nat)) (h0 h1 h2 h3 h4 h5 h6 h7 h8 h9 h10 h11 h12 : Nat) : jj_M l D cA ak yX11_thrown (.code yX11_thrown cX11_thrown 1 (some .int)) 0 0 0 0 [(h0, .inr (12, [.ref h1, .ref h2, .ref h3, .ref h4, .ref h5, .ref h6, .int 0, .int 1, .long 0, .long 0, .ref h7, .ref h8, .ref h9, .int 0, .int 0, .int 0, .int 0, .int 0, .int (-1), .int 0, .int 0, .ref h10, .ref h11, .ref h12, .int 0]))] [.ref h0] (fun (w : va_W) (r : Option Value) => (w = [(h0, .inr (12, [.ref h1, .ref h2, .ref h3, .ref h4, .ref h5, .ref h6, .int 0, .int 1, .long 0, .long 0, .ref h7, .ref h8, .ref h9, .int 0, .int 0, .int 0, .int 0, .int 0, .int (-1), .int 0, .int 0, .ref h10, .ref h11, .ref h12, .int 0]))] ∧ r = some (.int 1))) jj_noX := by
  refine jj_start hl (by decide) jw_992 (jj_le rfl) ?_
  intro p e s m args below meth c A hargs hA C hex hmn
  refine jj_aload_n C dX11_thrown_0 rfl ?_
  refine jj_get C jk_12 7 (by decide) jw_236 0 rfl rfl dX11_thrown_1 ?_
  exact jj_iret C ⟨rfl, rfl⟩ dX11_thrown_4 (jj_le rfl) (jj_le rfl)


set_option maxHeartbeats 4000000 in
set_option maxRecDepth 100000 in
theorem ct_X11_thrown_3 {l : Launch} (hl : l.stackTraces = false) (D : va_G) (cA : Nat → ClassId) (ak : (Nat → Nat) × (Nat → Nat)) (h0 h1 h2 h3 h4 h5 h6 h7 h8 h9 h10 h11 h12 : Nat) (a0 : Int32) : jj_M l D cA ak yX11_thrown (.code yX11_thrown cX11_thrown 1 (some .int)) 0 0 0 0 [(h0, .inr (12, [.ref h1, .ref h2, .ref h3, .ref h4, .ref h5, .ref h6, .int 0, .int 0, .long 0, .long 0, .ref h7, .ref h8, .ref h9, .int a0, .int 0, .int 0, .int 0, .int 0, .int (-1), .int 0, .int 0, .ref h10, .ref h11, .ref h12, .int 0]))] [.ref h0] (fun (w : va_W) (r : Option Value) => (w = [(h0, .inr (12, [.ref h1, .ref h2, .ref h3, .ref h4, .ref h5, .ref h6, .int 0, .int 0, .long 0, .long 0, .ref h7, .ref h8, .ref h9, .int a0, .int 0, .int 0, .int 0, .int 0, .int (-1), .int 0, .int 0, .ref h10, .ref h11, .ref h12, .int 0]))] ∧ r = some (.int 0))) jj_noX := by
  refine jj_start hl (by decide) jw_992 (jj_le rfl) ?_
  intro p e s m args below meth c A hargs hA C hex hmn
  refine jj_aload_n C dX11_thrown_0 rfl ?_
  refine jj_get C jk_12 7 (by decide) jw_236 0 rfl rfl dX11_thrown_1 ?_
  exact jj_iret C ⟨rfl, rfl⟩ dX11_thrown_4 (jj_le rfl) (jj_le rfl)


set_option maxHeartbeats 4000000 in
set_option maxRecDepth 100000 in
theorem ct_L_subscribe_1 {l : Launch} (hl : l.stackTraces = false) (D : va_G) (cA : Nat → ClassId) (ak : (Nat → Nat) × (Nat → Nat)) (h0 h1 h2 h3 h4 h5 h6 h7 h8 h9 h10 h11 h12 : Nat) (a0 : Int32) (a1 : Int32) (f2 : Nat → Option Nat) (k_f2_0 : f2 0 = some h6) : jj_M l D cA ak yL_subscribe (.codeWith yL_subscribe cL_subscribe 5 (some .int) [(0, 10, 13, 25), (0, 10, 17, 19), (0, 10, 21, 13)]) 8 124 63 408 [(h0, .inr (11, [.ref h7, .int 0, .int (-1), .ref h2, .ref h8, .ref h9, .ref h3, .int 0, .int 0, .ref h10])), (h1, .inl (cA 2, 1, .inr (.inl (fun _ => 0)))), (h2, .inr (2, [.int 1, .int 0, .int 0, .int 0, .int 100, .int 0, .int 0, .int 0, .int 0, .int 0, .ref h4, .ref h11, .ref h12, .ref h5])), (h3, .inl (cA 5, 10, .inr (.inr (.inr (.inr (fun _ => none)))))), (h4, .inl (cA 2, 6, .inr (.inl (fun _ => 0)))), (h5, .inl (cA 7, 12, .inr (.inr (.inr (.inr f2))))), (h6, .inr (7, [.int 0, .int 0, .int 0, .long 0, .long 0]))] [.ref h0, .int a0, .int a1, .ref h1] (fun (w : va_W) (r : Option Value) => (a0 < 0 ∧ w = [(h1, .inl (cA 2, 1, .inr (.inl (fun _ => 0))))] ∧ r = some (.int 1)) ∨ (¬ a0 < 0 ∧ 1 ≤ a0 ∧ w = [(h1, .inl (cA 2, 1, .inr (.inl (fun _ => 0))))] ∧ r = some (.int 1)) ∨ (¬ a0 < 0 ∧ ¬ 1 ≤ a0 ∧ a1 < 1 ∧ w = [(h1, .inl (cA 2, 1, .inr (.inl (fun _ => 0))))] ∧ r = some (.int 2)) ∨ (¬ a0 < 0 ∧ ¬ 1 ≤ a0 ∧ ¬ a1 < 1 ∧ ¬ a1 ≤ 9999999 ∧ w = [(h1, .inl (cA 2, 1, .inr (.inl (fun _ => 0))))] ∧ r = some (.int 2)) ∨ (¬ a0 < 0 ∧ ¬ 1 ≤ a0 ∧ ¬ a1 < 1 ∧ a1 ≤ 9999999 ∧ w = [(h1, .inl (cA 2, 1, .inr (.inl (vp_updL (fun _ => 0) 0 0))))] ∧ r = some (.int 0))) jj_noX := by
  refine jj_startW hl (by decide) jw_1039 (jj_le rfl) ?_
  intro p e s m args below meth c A hargs hA C htab hmn
  refine jj_aload_n C dL_subscribe_0 rfl ?_
  refine jj_iconst (v := 0) C dL_subscribe_1 (by decide) ?_
  refine jj_aload_n C dL_subscribe_2 rfl ?_
  refine jj_iload_n C dL_subscribe_3 rfl ?_
  refine jj_iload_n C dL_subscribe_4 rfl ?_
  refine jq_callV (rest := [.int 0, .ref h1]) C (ct_X10_subscribe_1 hl D cA ak h0 h2 h3 h4 h5 h6 h7 h8 h9 h10 h11 h12 a0 a1 f2 k_f2_0) [0, 2, 3, 4, 5, 6] [1] rfl rfl (by decide) (by decide) (by decide) 0 rfl rfl rfl jw_1034 jw_1035 jw_1036 jw_271 jw_299 jn_X10_subscribe rfl (jj_le rfl) (jj_le rfl) (jj_le rfl) (jj_le rfl) (jj_le rfl) dL_subscribe_5 rfl (fun E w1 X_1 => ?_) (fun w1 r O_2 => ?_)
  · rcases X_1 with ⟨rfl, c_3⟩ | ⟨rfl, c_4, c_5⟩ | ⟨rfl, c_6, c_7, c_8⟩ | ⟨rfl, c_9, c_10, c_11, c_12⟩
    · refine jj_leftY ?_
      refine jj_catch C [] (⟨0, 10, 13, 25⟩ : ExceptionTableEntry) [(⟨0, 10, 17, 19⟩ : ExceptionTableEntry), (⟨0, 10, 21, 13⟩ : ExceptionTableEntry)] (htab.trans rfl) (fun z hz => by cases hz) (by decide) (by decide) jw_1038 (by decide +kernel) (fun q9 => ?_)
      refine jj_astore C dL_subscribe_13 (by decide) rfl ?_
      refine jj_iconst (v := 1) C dL_subscribe_15 (by decide) ?_
      exact jj_iret C (Or.inl ⟨c_3, rfl, rfl⟩) dL_subscribe_16 (jj_le rfl) (jj_le rfl)
    · refine jj_leftY ?_
      refine jj_catch C [] (⟨0, 10, 13, 25⟩ : ExceptionTableEntry) [(⟨0, 10, 17, 19⟩ : ExceptionTableEntry), (⟨0, 10, 21, 13⟩ : ExceptionTableEntry)] (htab.trans rfl) (fun z hz => by cases hz) (by decide) (by decide) jw_1038 (by decide +kernel) (fun q9 => ?_)
      refine jj_astore C dL_subscribe_13 (by decide) rfl ?_
      refine jj_iconst (v := 1) C dL_subscribe_15 (by decide) ?_
      exact jj_iret C (Or.inr (Or.inl ⟨c_4, c_5, rfl, rfl⟩)) dL_subscribe_16 (jj_le rfl) (jj_le rfl)
    · refine jj_leftY ?_
      refine jj_catch C [(⟨0, 10, 13, 25⟩ : ExceptionTableEntry)] (⟨0, 10, 17, 19⟩ : ExceptionTableEntry) [(⟨0, 10, 21, 13⟩ : ExceptionTableEntry)] (htab.trans rfl) (fun z hz => by rcases List.mem_cons.mp hz with rfl | hz; exact Or.inr ⟨by decide, "java/lang/IndexOutOfBoundsException", jw_1038, by decide +kernel⟩; cases hz) (by decide) (by decide) jw_1001 (by decide +kernel) (fun q9 => ?_)
      refine jj_astore C dL_subscribe_17 (by decide) rfl ?_
      refine jj_iconst (v := 2) C dL_subscribe_19 (by decide) ?_
      exact jj_iret C (Or.inr (Or.inr (Or.inl ⟨c_6, c_7, c_8, rfl, rfl⟩))) dL_subscribe_20 (jj_le rfl) (jj_le rfl)
    · refine jj_leftY ?_
      refine jj_catch C [(⟨0, 10, 13, 25⟩ : ExceptionTableEntry)] (⟨0, 10, 17, 19⟩ : ExceptionTableEntry) [(⟨0, 10, 21, 13⟩ : ExceptionTableEntry)] (htab.trans rfl) (fun z hz => by rcases List.mem_cons.mp hz with rfl | hz; exact Or.inr ⟨by decide, "java/lang/IndexOutOfBoundsException", jw_1038, by decide +kernel⟩; cases hz) (by decide) (by decide) jw_1001 (by decide +kernel) (fun q9 => ?_)
      refine jj_astore C dL_subscribe_17 (by decide) rfl ?_
      refine jj_iconst (v := 2) C dL_subscribe_19 (by decide) ?_
      exact jj_iret C (Or.inr (Or.inr (Or.inr (Or.inl ⟨c_9, c_10, c_11, c_12, rfl, rfl⟩)))) dL_subscribe_20 (jj_le rfl) (jj_le rfl)
  · obtain ⟨c_13, c_14, c_15, c_16, rfl⟩ := O_2
    refine jj_left ?_
    refine jj_i2l (v := 0) C dL_subscribe_8 (by decide) ?_
    refine jj_last C 0 rfl (vp_in_iff.mpr (by decide)) (g := (vp_updL (fun _ => 0) 0 0)) rfl rfl dL_subscribe_9 ?_
    refine jj_goto (tgt := 25) C dL_subscribe_10 (by decide) ?_
    refine jj_iconst (v := 0) C dL_subscribe_25 (by decide) ?_
    exact jj_iret C (Or.inr (Or.inr (Or.inr (Or.inr ⟨c_13, c_14, c_15, c_16, rfl, rfl⟩)))) dL_subscribe_26 (jj_le rfl) (jj_le rfl)


set_option maxHeartbeats 4000000 in
set_option maxRecDepth 100000 in
theorem ct_X11_thrown_4 {l : Launch} (hl : l.stackTraces = false) (D : va_G) (cA : Nat → ClassId) (ak : (Nat → Nat) × (Nat → Nat)) (h0 h1 h2 h3 h4 h5 h6 h7 h8 h9 h10 h11 h12 : Nat) : jj_M l D cA ak yX11_thrown (.code yX11_thrown cX11_thrown 1 (some .int)) 0 0 0 0 [(h0, .inr (12, [.ref h1, .ref h2, .ref h3, .ref h4, .ref h5, .ref h6, .int 0, .int 2, .long 0, .long 0, .ref h7, .ref h8, .ref h9, .int 0, .int 0, .int 0, .int 0, .int 0, .int (-1), .int 0, .int 0, .ref h10, .ref h11, .ref h12, .int 0]))] [.ref h0] (fun (w : va_W) (r : Option Value) => (w = [(h0, .inr (12, [.ref h1, .ref h2, .ref h3, .ref h4, .ref h5, .ref h6, .int 0, .int 2, .long 0, .long 0, .ref h7, .ref h8, .ref h9, .int 0, .int 0, .int 0, .int 0, .int 0, .int (-1), .int 0, .int 0, .ref h10, .ref h11, .ref h12, .int 0]))] ∧ r = some (.int 2))) jj_noX := by
  refine jj_start hl (by decide) jw_992 (jj_le rfl) ?_
  intro p e s m args below meth c A hargs hA C hex hmn
  refine jj_aload_n C dX11_thrown_0 rfl ?_
  refine jj_get C jk_12 7 (by decide) jw_236 0 rfl rfl dX11_thrown_1 ?_
  exact jj_iret C ⟨rfl, rfl⟩ dX11_thrown_4 (jj_le rfl) (jj_le rfl)


set_option maxHeartbeats 4000000 in
set_option maxRecDepth 100000 in
theorem ct_X11_thrown_5 {l : Launch} (hl : l.stackTraces = false) (D : va_G) (cA : Nat → ClassId) (ak : (Nat → Nat) × (Nat → Nat)) (h0 h1 h2 h3 h4 h5 h6 h7 h8 h9 h10 h11 h12 : Nat) : jj_M l D cA ak yX11_thrown (.code yX11_thrown cX11_thrown 1 (some .int)) 0 0 0 0 [(h0, .inr (12, [.ref h1, .ref h2, .ref h3, .ref h4, .ref h5, .ref h6, .int 1, .int 0, .long 0, .long 0, .ref h7, .ref h8, .ref h9, .int 0, .int 0, .int 0, .int 0, .int 0, .int (-1), .int 0, .int 0, .ref h10, .ref h11, .ref h12, .int 0]))] [.ref h0] (fun (w : va_W) (r : Option Value) => (w = [(h0, .inr (12, [.ref h1, .ref h2, .ref h3, .ref h4, .ref h5, .ref h6, .int 1, .int 0, .long 0, .long 0, .ref h7, .ref h8, .ref h9, .int 0, .int 0, .int 0, .int 0, .int 0, .int (-1), .int 0, .int 0, .ref h10, .ref h11, .ref h12, .int 0]))] ∧ r = some (.int 0))) jj_noX := by
  refine jj_start hl (by decide) jw_992 (jj_le rfl) ?_
  intro p e s m args below meth c A hargs hA C hex hmn
  refine jj_aload_n C dX11_thrown_0 rfl ?_
  refine jj_get C jk_12 7 (by decide) jw_236 0 rfl rfl dX11_thrown_1 ?_
  exact jj_iret C ⟨rfl, rfl⟩ dX11_thrown_4 (jj_le rfl) (jj_le rfl)


set_option maxHeartbeats 4000000 in
set_option maxRecDepth 100000 in
theorem ct_L_redeem_1 {l : Launch} (hl : l.stackTraces = false) (D : va_G) (cA : Nat → ClassId) (ak : (Nat → Nat) × (Nat → Nat)) (h0 h1 h2 h3 h4 h5 h6 h7 h8 h9 h10 h11 h12 : Nat) (a0 : Int32) (a1 : Int32) (f2 : Nat → Option Nat) (k_f2_0 : f2 0 = some h6) : jj_M l D cA ak yL_redeem (.codeWith yL_redeem cL_redeem 5 (some .int) [(0, 10, 13, 25), (0, 10, 17, 19), (0, 10, 21, 13)]) 8 124 63 408 [(h0, .inr (11, [.ref h7, .int 0, .int (-1), .ref h2, .ref h8, .ref h9, .ref h3, .int 0, .int 0, .ref h10])), (h1, .inl (cA 2, 1, .inr (.inl (fun _ => 0)))), (h2, .inr (2, [.int 1, .int 0, .int 0, .int 0, .int 100, .int 0, .int 0, .int 0, .int 0, .int 0, .ref h4, .ref h11, .ref h12, .ref h5])), (h3, .inl (cA 5, 10, .inr (.inr (.inr (.inr (fun _ => none)))))), (h4, .inl (cA 2, 6, .inr (.inl (fun _ => 0)))), (h5, .inl (cA 7, 12, .inr (.inr (.inr (.inr f2))))), (h6, .inr (7, [.int 0, .int 0, .int 0, .long 0, .long 0]))] [.ref h0, .int a0, .int a1, .ref h1] (fun (w : va_W) (r : Option Value) => (a0 < 0 ∧ w = [(h1, .inl (cA 2, 1, .inr (.inl (fun _ => 0))))] ∧ r = some (.int 1)) ∨ (¬ a0 < 0 ∧ 1 ≤ a0 ∧ w = [(h1, .inl (cA 2, 1, .inr (.inl (fun _ => 0))))] ∧ r = some (.int 1)) ∨ (¬ a0 < 0 ∧ ¬ 1 ≤ a0 ∧ a1 < 1 ∧ w = [(h1, .inl (cA 2, 1, .inr (.inl (fun _ => 0))))] ∧ r = some (.int 2)) ∨ (¬ a0 < 0 ∧ ¬ 1 ≤ a0 ∧ ¬ a1 < 1 ∧ a1 ≤ 99999999 ∧ ¬ (0 + a1.toInt64) ≤ 0 ∧ w = [(h1, .inl (cA 2, 1, .inr (.inl (fun _ => 0))))] ∧ r = some (.int 3)) ∨ (¬ a0 < 0 ∧ ¬ 1 ≤ a0 ∧ ¬ a1 < 1 ∧ ¬ a1 ≤ 99999999 ∧ w = [(h1, .inl (cA 2, 1, .inr (.inl (fun _ => 0))))] ∧ r = some (.int 2)) ∨ (¬ a0 < 0 ∧ ¬ 1 ≤ a0 ∧ ¬ a1 < 1 ∧ a1 ≤ 99999999 ∧ (0 + a1.toInt64) ≤ 0 ∧ w = [(h1, .inl (cA 2, 1, .inr (.inl (vp_updL (fun _ => 0) 0 0))))] ∧ r = some (.int 0))) jj_noX := by
  refine jj_startW hl (by decide) jw_1052 (jj_le rfl) ?_
  intro p e s m args below meth c A hargs hA C htab hmn
  refine jj_aload_n C dL_redeem_0 rfl ?_
  refine jj_iconst (v := 0) C dL_redeem_1 (by decide) ?_
  refine jj_aload_n C dL_redeem_2 rfl ?_
  refine jj_iload_n C dL_redeem_3 rfl ?_
  refine jj_iload_n C dL_redeem_4 rfl ?_
  refine jq_callV (rest := [.int 0, .ref h1]) C (ct_X10_redeem_1 hl D cA ak h0 h2 h3 h4 h5 h6 h7 h8 h9 h10 h11 h12 a0 a1 f2 k_f2_0) [0, 2, 3, 4, 5, 6] [1] rfl rfl (by decide) (by decide) (by decide) 0 rfl rfl rfl jw_1047 jw_1048 jw_1049 jw_271 jw_369 jn_X10_redeem rfl (jj_le rfl) (jj_le rfl) (jj_le rfl) (jj_le rfl) (jj_le rfl) dL_redeem_5 rfl (fun E w1 X_1 => ?_) (fun w1 r O_2 => ?_)
  · rcases X_1 with ⟨rfl, c_3⟩ | ⟨rfl, c_4, c_5⟩ | ⟨rfl, c_6, c_7, c_8⟩ | ⟨rfl, c_9, c_10, c_11, c_12, c_13⟩ | ⟨rfl, c_14, c_15, c_16, c_17⟩
    · refine jj_leftY ?_
      refine jj_catch C [] (⟨0, 10, 13, 25⟩ : ExceptionTableEntry) [(⟨0, 10, 17, 19⟩ : ExceptionTableEntry), (⟨0, 10, 21, 13⟩ : ExceptionTableEntry)] (htab.trans rfl) (fun z hz => by cases hz) (by decide) (by decide) jw_1038 (by decide +kernel) (fun q9 => ?_)
      refine jj_astore C dL_redeem_13 (by decide) rfl ?_
      refine jj_iconst (v := 1) C dL_redeem_15 (by decide) ?_
      exact jj_iret C (Or.inl ⟨c_3, rfl, rfl⟩) dL_redeem_16 (jj_le rfl) (jj_le rfl)
    · refine jj_leftY ?_
      refine jj_catch C [] (⟨0, 10, 13, 25⟩ : ExceptionTableEntry) [(⟨0, 10, 17, 19⟩ : ExceptionTableEntry), (⟨0, 10, 21, 13⟩ : ExceptionTableEntry)] (htab.trans rfl) (fun z hz => by cases hz) (by decide) (by decide) jw_1038 (by decide +kernel) (fun q9 => ?_)
      refine jj_astore C dL_redeem_13 (by decide) rfl ?_
      refine jj_iconst (v := 1) C dL_redeem_15 (by decide) ?_
      exact jj_iret C (Or.inr (Or.inl ⟨c_4, c_5, rfl, rfl⟩)) dL_redeem_16 (jj_le rfl) (jj_le rfl)
    · refine jj_leftY ?_
      refine jj_catch C [(⟨0, 10, 13, 25⟩ : ExceptionTableEntry)] (⟨0, 10, 17, 19⟩ : ExceptionTableEntry) [(⟨0, 10, 21, 13⟩ : ExceptionTableEntry)] (htab.trans rfl) (fun z hz => by rcases List.mem_cons.mp hz with rfl | hz; exact Or.inr ⟨by decide, "java/lang/IndexOutOfBoundsException", jw_1038, by decide +kernel⟩; cases hz) (by decide) (by decide) jw_1001 (by decide +kernel) (fun q9 => ?_)
      refine jj_astore C dL_redeem_17 (by decide) rfl ?_
      refine jj_iconst (v := 2) C dL_redeem_19 (by decide) ?_
      exact jj_iret C (Or.inr (Or.inr (Or.inl ⟨c_6, c_7, c_8, rfl, rfl⟩))) dL_redeem_20 (jj_le rfl) (jj_le rfl)
    · refine jj_leftY ?_
      refine jj_catch C [(⟨0, 10, 13, 25⟩ : ExceptionTableEntry), (⟨0, 10, 17, 19⟩ : ExceptionTableEntry)] (⟨0, 10, 21, 13⟩ : ExceptionTableEntry) [] (htab.trans rfl) (fun z hz => by rcases List.mem_cons.mp hz with rfl | hz; exact Or.inr ⟨by decide, "java/lang/IndexOutOfBoundsException", jw_1038, by decide +kernel⟩; rcases List.mem_cons.mp hz with rfl | hz; exact Or.inr ⟨by decide, "java/lang/IllegalArgumentException", jw_1001, by decide +kernel⟩; cases hz) (by decide) (by decide) jw_1051 (by decide +kernel) (fun q9 => ?_)
      refine jj_astore C dL_redeem_21 (by decide) rfl ?_
      refine jj_iconst (v := 3) C dL_redeem_23 (by decide) ?_
      exact jj_iret C (Or.inr (Or.inr (Or.inr (Or.inl ⟨c_9, c_10, c_11, c_12, c_13, rfl, rfl⟩)))) dL_redeem_24 (jj_le rfl) (jj_le rfl)
    · refine jj_leftY ?_
      refine jj_catch C [(⟨0, 10, 13, 25⟩ : ExceptionTableEntry)] (⟨0, 10, 17, 19⟩ : ExceptionTableEntry) [(⟨0, 10, 21, 13⟩ : ExceptionTableEntry)] (htab.trans rfl) (fun z hz => by rcases List.mem_cons.mp hz with rfl | hz; exact Or.inr ⟨by decide, "java/lang/IndexOutOfBoundsException", jw_1038, by decide +kernel⟩; cases hz) (by decide) (by decide) jw_1001 (by decide +kernel) (fun q9 => ?_)
      refine jj_astore C dL_redeem_17 (by decide) rfl ?_
      refine jj_iconst (v := 2) C dL_redeem_19 (by decide) ?_
      exact jj_iret C (Or.inr (Or.inr (Or.inr (Or.inr (Or.inl ⟨c_14, c_15, c_16, c_17, rfl, rfl⟩))))) dL_redeem_20 (jj_le rfl) (jj_le rfl)
  · obtain ⟨c_18, c_19, c_20, c_21, c_22, rfl⟩ := O_2
    refine jj_left ?_
    refine jj_i2l (v := 0) C dL_redeem_8 (by decide) ?_
    refine jj_last C 0 rfl (vp_in_iff.mpr (by decide)) (g := (vp_updL (fun _ => 0) 0 0)) rfl rfl dL_redeem_9 ?_
    refine jj_goto (tgt := 25) C dL_redeem_10 (by decide) ?_
    refine jj_iconst (v := 0) C dL_redeem_25 (by decide) ?_
    exact jj_iret C (Or.inr (Or.inr (Or.inr (Or.inr (Or.inr ⟨c_18, c_19, c_20, c_21, c_22, rfl, rfl⟩))))) dL_redeem_26 (jj_le rfl) (jj_le rfl)


set_option maxHeartbeats 4000000 in
set_option maxRecDepth 100000 in
theorem ct_X11_thrown_6 {l : Launch} (hl : l.stackTraces = false) (D : va_G) (cA : Nat → ClassId) (ak : (Nat → Nat) × (Nat → Nat)) (h0 h1 h2 h3 h4 h5 h6 h7 h8 h9 h10 h11 h12 : Nat) : jj_M l D cA ak yX11_thrown (.code yX11_thrown cX11_thrown 1 (some .int)) 0 0 0 0 [(h0, .inr (12, [.ref h1, .ref h2, .ref h3, .ref h4, .ref h5, .ref h6, .int 0, .int 3, .long 0, .long 0, .ref h7, .ref h8, .ref h9, .int 0, .int 0, .int 0, .int 0, .int 0, .int (-1), .int 0, .int 0, .ref h10, .ref h11, .ref h12, .int 0]))] [.ref h0] (fun (w : va_W) (r : Option Value) => (w = [(h0, .inr (12, [.ref h1, .ref h2, .ref h3, .ref h4, .ref h5, .ref h6, .int 0, .int 3, .long 0, .long 0, .ref h7, .ref h8, .ref h9, .int 0, .int 0, .int 0, .int 0, .int 0, .int (-1), .int 0, .int 0, .ref h10, .ref h11, .ref h12, .int 0]))] ∧ r = some (.int 3))) jj_noX := by
  refine jj_start hl (by decide) jw_992 (jj_le rfl) ?_
  intro p e s m args below meth c A hargs hA C hex hmn
  refine jj_aload_n C dX11_thrown_0 rfl ?_
  refine jj_get C jk_12 7 (by decide) jw_236 0 rfl rfl dX11_thrown_1 ?_
  exact jj_iret C ⟨rfl, rfl⟩ dX11_thrown_4 (jj_le rfl) (jj_le rfl)


set_option maxHeartbeats 4000000 in
set_option maxRecDepth 100000 in
theorem ct_L_withdraw_1 {l : Launch} (hl : l.stackTraces = false) (D : va_G) (cA : Nat → ClassId) (ak : (Nat → Nat) × (Nat → Nat)) (h0 h1 h2 h3 h4 h5 h6 h7 h8 h9 h10 h11 : Nat) (a0 : Int32) : jj_M l D cA ak yL_withdraw (.codeWith yL_withdraw cL_withdraw 4 (some .int) [(0, 8, 11, 25)]) 9 146 1 6 [(h0, .inr (11, [.ref h3, .int 0, .int (-1), .ref h1, .ref h4, .ref h5, .ref h6, .int 0, .int 0, .ref h7])), (h1, .inr (2, [.int 1, .int 0, .int 0, .int 0, .int 100, .int 0, .int 0, .int 0, .int 0, .int 0, .ref h8, .ref h9, .ref h10, .ref h11]))] [.ref h0, .int a0, .ref h2] (fun (w : va_W) (r : Option Value) => (a0 < 0 ∧ w = [] ∧ r = some (.int 1)) ∨ (¬ a0 < 0 ∧ w = [] ∧ r = some (.int 1))) jj_noX := by
  refine jj_startW hl (by decide) jw_1064 (jj_le rfl) ?_
  intro p e s m args below meth c A hargs hA C htab hmn
  refine jj_aload_n C dL_withdraw_0 rfl ?_
  refine jj_iconst (v := 0) C dL_withdraw_1 (by decide) ?_
  refine jj_aload_n C dL_withdraw_2 rfl ?_
  refine jj_iload_n C dL_withdraw_3 rfl ?_
  refine jq_callV (rest := [.int 0, .ref h2]) C (ct_X10_withdraw_1 hl D cA ak h0 h1 h3 h4 h5 h6 h7 h8 h9 h10 h11 a0) [0, 1] [] rfl rfl (by decide) (by decide) (by decide) 0 rfl rfl rfl jw_1060 jw_1061 jw_1062 jw_271 jw_397 jn_X10_withdraw rfl (jj_le rfl) (jj_le rfl) (jj_le rfl) (jj_le rfl) (jj_le rfl) dL_withdraw_4 rfl (fun E w1 X_1 => ?_) (fun w1 r O_2 => ?_)
  · rcases X_1 with ⟨rfl, c_3⟩ | ⟨rfl, c_4⟩
    · refine jj_leftY ?_
      refine jj_catch C [] (⟨0, 8, 11, 25⟩ : ExceptionTableEntry) [] (htab.trans rfl) (fun z hz => by cases hz) (by decide) (by decide) jw_1038 (by decide +kernel) (fun q9 => ?_)
      refine jj_astore_n C dL_withdraw_11 (by decide) rfl ?_
      refine jj_iconst (v := 1) C dL_withdraw_12 (by decide) ?_
      exact jj_iret C (Or.inl ⟨c_3, rfl, rfl⟩) dL_withdraw_13 (jj_le rfl) (jj_le rfl)
    · refine jj_leftY ?_
      refine jj_catch C [] (⟨0, 8, 11, 25⟩ : ExceptionTableEntry) [] (htab.trans rfl) (fun z hz => by cases hz) (by decide) (by decide) jw_1038 (by decide +kernel) (fun q9 => ?_)
      refine jj_astore_n C dL_withdraw_11 (by decide) rfl ?_
      refine jj_iconst (v := 1) C dL_withdraw_12 (by decide) ?_
      exact jj_iret C (Or.inr ⟨c_4, rfl, rfl⟩) dL_withdraw_13 (jj_le rfl) (jj_le rfl)
  · exact O_2.elim


set_option maxHeartbeats 4000000 in
set_option maxRecDepth 100000 in
theorem ct_L_earn_1 {l : Launch} (hl : l.stackTraces = false) (D : va_G) (cA : Nat → ClassId) (ak : (Nat → Nat) × (Nat → Nat)) (h0 h1 h2 h3 h4 h5 h6 h7 h8 h9 h10 h11 : Nat) (a0 : Int32) : jj_M l D cA ak yL_earn (.codeWith yL_earn cL_earn 4 (some .int) [(0, 8, 11, 19), (0, 8, 14, 13)]) 8 123 63 408 [(h0, .inr (11, [.ref h5, .int 0, .int (-1), .ref h2, .ref h6, .ref h7, .ref h3, .int 0, .int 0, .ref h8])), (h1, .inl (cA 2, 1, .inr (.inl (fun _ => 0)))), (h2, .inr (2, [.int 1, .int 0, .int 0, .int 0, .int 100, .int 0, .int 0, .int 0, .int 0, .int 0, .ref h4, .ref h9, .ref h10, .ref h11])), (h3, .inl (cA 5, 10, .inr (.inr (.inr (.inr (fun _ => none)))))), (h4, .inl (cA 2, 6, .inr (.inl (fun _ => 0))))] [.ref h0, .int a0, .ref h1] (fun (w : va_W) (r : Option Value) => (a0 < (-9000) ∧ w = [(h1, .inl (cA 2, 1, .inr (.inl (fun _ => 0))))] ∧ r = some (.int 1)) ∨ (¬ a0 < (-9000) ∧ ¬ a0 ≤ 9999 ∧ w = [(h1, .inl (cA 2, 1, .inr (.inl (fun _ => 0))))] ∧ r = some (.int 1)) ∨ (¬ a0 < (-9000) ∧ a0 ≤ 9999 ∧ w = [(h1, .inl (cA 2, 1, .inr (.inl (vp_updL (fun _ => 0) 0 0))))] ∧ r = some (.int 0))) jj_noX := by
  refine jj_startW hl (by decide) jw_1084 (jj_le rfl) ?_
  intro p e s m args below meth c A hargs hA C htab hmn
  refine jj_aload_n C dL_earn_0 rfl ?_
  refine jj_iconst (v := 0) C dL_earn_1 (by decide) ?_
  refine jj_aload_n C dL_earn_2 rfl ?_
  refine jj_iload_n C dL_earn_3 rfl ?_
  refine jq_callV (rest := [.int 0, .ref h1]) C (ct_X10_earn_1 hl D cA ak h0 h2 h3 h4 h5 h6 h7 h8 h9 h10 h11 a0) [0, 2, 3, 4] [1] rfl rfl (by decide) (by decide) (by decide) 0 rfl rfl rfl jw_1080 jw_1081 jw_1082 jw_271 jw_415 jn_X10_earn rfl (jj_le rfl) (jj_le rfl) (jj_le rfl) (jj_le rfl) (jj_le rfl) dL_earn_4 rfl (fun E w1 X_1 => ?_) (fun w1 r O_2 => ?_)
  · rcases X_1 with ⟨rfl, c_3⟩ | ⟨rfl, c_4, c_5⟩
    · refine jj_leftY ?_
      refine jj_catch C [] (⟨0, 8, 11, 19⟩ : ExceptionTableEntry) [(⟨0, 8, 14, 13⟩ : ExceptionTableEntry)] (htab.trans rfl) (fun z hz => by cases hz) (by decide) (by decide) jw_1001 (by decide +kernel) (fun q9 => ?_)
      refine jj_astore_n C dL_earn_11 (by decide) rfl ?_
      refine jj_iconst (v := 1) C dL_earn_12 (by decide) ?_
      exact jj_iret C (Or.inl ⟨c_3, rfl, rfl⟩) dL_earn_13 (jj_le rfl) (jj_le rfl)
    · refine jj_leftY ?_
      refine jj_catch C [] (⟨0, 8, 11, 19⟩ : ExceptionTableEntry) [(⟨0, 8, 14, 13⟩ : ExceptionTableEntry)] (htab.trans rfl) (fun z hz => by cases hz) (by decide) (by decide) jw_1001 (by decide +kernel) (fun q9 => ?_)
      refine jj_astore_n C dL_earn_11 (by decide) rfl ?_
      refine jj_iconst (v := 1) C dL_earn_12 (by decide) ?_
      exact jj_iret C (Or.inr (Or.inl ⟨c_4, c_5, rfl, rfl⟩)) dL_earn_13 (jj_le rfl) (jj_le rfl)
  · obtain ⟨c_6, c_7, rfl⟩ := O_2
    refine jj_left ?_
    refine jj_last C 0 rfl (vp_in_iff.mpr (by decide)) (g := (vp_updL (fun _ => 0) 0 0)) rfl rfl dL_earn_7 ?_
    refine jj_goto (tgt := 17) C dL_earn_8 (by decide) ?_
    refine jj_iconst (v := 0) C dL_earn_17 (by decide) ?_
    exact jj_iret C (Or.inr (Or.inr ⟨c_6, c_7, rfl, rfl⟩)) dL_earn_18 (jj_le rfl) (jj_le rfl)


set_option maxHeartbeats 4000000 in
set_option maxRecDepth 100000 in
theorem ct_L_passDays_1 {l : Launch} (hl : l.stackTraces = false) (D : va_G) (cA : Nat → ClassId) (ak : (Nat → Nat) × (Nat → Nat)) (h0 h1 h2 h3 h4 h5 h6 h7 h8 h9 h10 h11 : Nat) (a0 : Int32) : jj_M l D cA ak yL_passDays (.codeWith yL_passDays cL_passDays 4 (some .int) [(0, 8, 11, 19)]) 8 123 63 408 [(h0, .inr (11, [.ref h5, .int 0, .int (-1), .ref h2, .ref h6, .ref h7, .ref h3, .int 0, .int 0, .ref h8])), (h1, .inl (cA 2, 1, .inr (.inl (fun _ => 0)))), (h2, .inr (2, [.int 1, .int 0, .int 0, .int 0, .int 100, .int 0, .int 0, .int 0, .int 0, .int 0, .ref h4, .ref h9, .ref h10, .ref h11])), (h3, .inl (cA 5, 10, .inr (.inr (.inr (.inr (fun _ => none)))))), (h4, .inl (cA 2, 6, .inr (.inl (fun _ => 0))))] [.ref h0, .int a0, .ref h1] (fun (w : va_W) (r : Option Value) => (a0 < 1 ∧ w = [(h1, .inl (cA 2, 1, .inr (.inl (fun _ => 0))))] ∧ r = some (.int 1)) ∨ (¬ a0 < 1 ∧ ¬ a0 ≤ 400 ∧ w = [(h1, .inl (cA 2, 1, .inr (.inl (fun _ => 0))))] ∧ r = some (.int 1)) ∨ (¬ a0 < 1 ∧ a0 ≤ 400 ∧ w = [(h1, .inl (cA 2, 1, .inr (.inl (vp_updL (fun _ => 0) 0 0))))] ∧ r = some (.int 0))) jj_noX := by
  refine jj_startW hl (by decide) jw_1096 (jj_le rfl) ?_
  intro p e s m args below meth c A hargs hA C htab hmn
  refine jj_aload_n C dL_passDays_0 rfl ?_
  refine jj_iconst (v := 0) C dL_passDays_1 (by decide) ?_
  refine jj_aload_n C dL_passDays_2 rfl ?_
  refine jj_iload_n C dL_passDays_3 rfl ?_
  refine jq_callV (rest := [.int 0, .ref h1]) C (ct_X10_passDays_1 hl D cA ak h0 h2 h3 h4 h5 h6 h7 h8 h9 h10 h11 a0) [0, 2, 3, 4] [1] rfl rfl (by decide) (by decide) (by decide) 0 rfl rfl rfl jw_1092 jw_1093 jw_1094 jw_271 jw_442 jn_X10_passDays rfl (jj_le rfl) (jj_le rfl) (jj_le rfl) (jj_le rfl) (jj_le rfl) dL_passDays_4 rfl (fun E w1 X_1 => ?_) (fun w1 r O_2 => ?_)
  · rcases X_1 with ⟨rfl, c_3⟩ | ⟨rfl, c_4, c_5⟩
    · refine jj_leftY ?_
      refine jj_catch C [] (⟨0, 8, 11, 19⟩ : ExceptionTableEntry) [] (htab.trans rfl) (fun z hz => by cases hz) (by decide) (by decide) jw_1001 (by decide +kernel) (fun q9 => ?_)
      refine jj_astore_n C dL_passDays_11 (by decide) rfl ?_
      refine jj_iconst (v := 1) C dL_passDays_12 (by decide) ?_
      exact jj_iret C (Or.inl ⟨c_3, rfl, rfl⟩) dL_passDays_13 (jj_le rfl) (jj_le rfl)
    · refine jj_leftY ?_
      refine jj_catch C [] (⟨0, 8, 11, 19⟩ : ExceptionTableEntry) [] (htab.trans rfl) (fun z hz => by cases hz) (by decide) (by decide) jw_1001 (by decide +kernel) (fun q9 => ?_)
      refine jj_astore_n C dL_passDays_11 (by decide) rfl ?_
      refine jj_iconst (v := 1) C dL_passDays_12 (by decide) ?_
      exact jj_iret C (Or.inr (Or.inl ⟨c_4, c_5, rfl, rfl⟩)) dL_passDays_13 (jj_le rfl) (jj_le rfl)
  · obtain ⟨c_6, c_7, rfl⟩ := O_2
    refine jj_left ?_
    refine jj_last C 0 rfl (vp_in_iff.mpr (by decide)) (g := (vp_updL (fun _ => 0) 0 0)) rfl rfl dL_passDays_7 ?_
    refine jj_goto (tgt := 14) C dL_passDays_8 (by decide) ?_
    refine jj_iconst (v := 0) C dL_passDays_14 (by decide) ?_
    exact jj_iret C (Or.inr (Or.inr ⟨c_6, c_7, rfl, rfl⟩)) dL_passDays_15 (jj_le rfl) (jj_le rfl)


set_option maxHeartbeats 4000000 in
set_option maxRecDepth 100000 in
theorem ct_L_transfer_1 {l : Launch} (hl : l.stackTraces = false) (D : va_G) (cA : Nat → ClassId) (ak : (Nat → Nat) × (Nat → Nat)) (h0 h1 h2 h3 h4 h5 h6 h7 h8 h9 h10 h11 : Nat) (a0 : Int32) (a1 : Int32) (a2 : Int32) : jj_M l D cA ak yL_transfer (.codeWith yL_transfer cL_transfer 6 (some .int) [(0, 11, 14, 25), (0, 11, 18, 19), (0, 11, 22, 13)]) 8 125 63 408 [(h0, .inr (11, [.ref h5, .int 0, .int (-1), .ref h2, .ref h6, .ref h7, .ref h3, .int 0, .int 0, .ref h8])), (h1, .inl (cA 2, 1, .inr (.inl (fun _ => 0)))), (h2, .inr (2, [.int 1, .int 0, .int 0, .int 0, .int 100, .int 0, .int 0, .int 0, .int 0, .int 0, .ref h4, .ref h9, .ref h10, .ref h11])), (h3, .inl (cA 5, 10, .inr (.inr (.inr (.inr (fun _ => none)))))), (h4, .inl (cA 2, 6, .inr (.inl (fun _ => 0))))] [.ref h0, .int a0, .int a1, .int a2, .ref h1] (fun (w : va_W) (r : Option Value) => (a0 < 0 ∧ w = [(h1, .inl (cA 2, 1, .inr (.inl (fun _ => 0))))] ∧ r = some (.int 1)) ∨ (¬ a0 < 0 ∧ 1 ≤ a0 ∧ w = [(h1, .inl (cA 2, 1, .inr (.inl (fun _ => 0))))] ∧ r = some (.int 1)) ∨ (¬ a0 < 0 ∧ ¬ 1 ≤ a0 ∧ a1 < 0 ∧ w = [(h1, .inl (cA 2, 1, .inr (.inl (fun _ => 0))))] ∧ r = some (.int 1)) ∨ (¬ a0 < 0 ∧ ¬ 1 ≤ a0 ∧ ¬ a1 < 0 ∧ 1 ≤ a1 ∧ w = [(h1, .inl (cA 2, 1, .inr (.inl (fun _ => 0))))] ∧ r = some (.int 1)) ∨ (¬ a0 < 0 ∧ ¬ 1 ≤ a0 ∧ ¬ a1 < 0 ∧ ¬ 1 ≤ a1 ∧ a0 = a1 ∧ w = [(h1, .inl (cA 2, 1, .inr (.inl (fun _ => 0))))] ∧ r = some (.int 2)) ∨ (¬ a0 < 0 ∧ ¬ 1 ≤ a0 ∧ ¬ a1 < 0 ∧ ¬ 1 ≤ a1 ∧ ¬ a0 = a1 ∧ a2 < 1 ∧ w = [(h1, .inl (cA 2, 1, .inr (.inl (fun _ => 0))))] ∧ r = some (.int 2)) ∨ (¬ a0 < 0 ∧ ¬ 1 ≤ a0 ∧ ¬ a1 < 0 ∧ ¬ 1 ≤ a1 ∧ ¬ a0 = a1 ∧ ¬ a2 < 1 ∧ a2 ≤ 99999999 ∧ ¬ (a2.toInt64 + 0) ≤ 0 ∧ w = [(h1, .inl (cA 2, 1, .inr (.inl (fun _ => 0))))] ∧ r = some (.int 3)) ∨ (¬ a0 < 0 ∧ ¬ 1 ≤ a0 ∧ ¬ a1 < 0 ∧ ¬ 1 ≤ a1 ∧ ¬ a0 = a1 ∧ ¬ a2 < 1 ∧ ¬ a2 ≤ 99999999 ∧ w = [(h1, .inl (cA 2, 1, .inr (.inl (fun _ => 0))))] ∧ r = some (.int 2)) ∨ (¬ a0 < 0 ∧ ¬ 1 ≤ a0 ∧ ¬ a1 < 0 ∧ ¬ 1 ≤ a1 ∧ ¬ a0 = a1 ∧ ¬ a2 < 1 ∧ a2 ≤ 99999999 ∧ (a2.toInt64 + 0) ≤ 0 ∧ w = [(h1, .inl (cA 2, 1, .inr (.inl (vp_updL (fun _ => 0) 0 0))))] ∧ r = some (.int 0))) jj_noX := by
  refine jj_startW hl (by decide) jw_1124 (jj_le rfl) ?_
  intro p e s m args below meth c A hargs hA C htab hmn
  refine jj_aload C dL_transfer_0 rfl ?_
  refine jj_iconst (v := 0) C dL_transfer_2 (by decide) ?_
  refine jj_aload_n C dL_transfer_3 rfl ?_
  refine jj_iload_n C dL_transfer_4 rfl ?_
  refine jj_iload_n C dL_transfer_5 rfl ?_
  refine jj_iload_n C dL_transfer_6 rfl ?_
  refine jq_callV (rest := [.int 0, .ref h1]) C (ct_X10_transfer_1 hl D cA ak h0 h2 h3 h4 h5 h6 h7 h8 h9 h10 h11 a0 a1 a2) [0, 2, 3, 4] [1] rfl rfl (by decide) (by decide) (by decide) 0 rfl rfl rfl jw_1120 jw_1121 jw_1122 jw_271 jw_461 jn_X10_transfer rfl (jj_le rfl) (jj_le rfl) (jj_le rfl) (jj_le rfl) (jj_le rfl) dL_transfer_7 rfl (fun E w1 X_1 => ?_) (fun w1 r O_2 => ?_)
  · rcases X_1 with ⟨rfl, c_3⟩ | ⟨rfl, c_4, c_5⟩ | ⟨rfl, c_6, c_7, c_8⟩ | ⟨rfl, c_9, c_10, c_11, c_12⟩ | ⟨rfl, c_13, c_14, c_15, c_16, c_17⟩ | ⟨rfl, c_18, c_19, c_20, c_21, c_22, c_23⟩ | ⟨rfl, c_24, c_25, c_26, c_27, c_28, c_29, c_30, c_31⟩ | ⟨rfl, c_32, c_33, c_34, c_35, c_36, c_37, c_38⟩
    · refine jj_leftY ?_
      refine jj_catch C [] (⟨0, 11, 14, 25⟩ : ExceptionTableEntry) [(⟨0, 11, 18, 19⟩ : ExceptionTableEntry), (⟨0, 11, 22, 13⟩ : ExceptionTableEntry)] (htab.trans rfl) (fun z hz => by cases hz) (by decide) (by decide) jw_1038 (by decide +kernel) (fun q9 => ?_)
      refine jj_astore C dL_transfer_14 (by decide) rfl ?_
      refine jj_iconst (v := 1) C dL_transfer_16 (by decide) ?_
      exact jj_iret C (Or.inl ⟨c_3, rfl, rfl⟩) dL_transfer_17 (jj_le rfl) (jj_le rfl)
    · refine jj_leftY ?_
      refine jj_catch C [] (⟨0, 11, 14, 25⟩ : ExceptionTableEntry) [(⟨0, 11, 18, 19⟩ : ExceptionTableEntry), (⟨0, 11, 22, 13⟩ : ExceptionTableEntry)] (htab.trans rfl) (fun z hz => by cases hz) (by decide) (by decide) jw_1038 (by decide +kernel) (fun q9 => ?_)
      refine jj_astore C dL_transfer_14 (by decide) rfl ?_
      refine jj_iconst (v := 1) C dL_transfer_16 (by decide) ?_
      exact jj_iret C (Or.inr (Or.inl ⟨c_4, c_5, rfl, rfl⟩)) dL_transfer_17 (jj_le rfl) (jj_le rfl)
    · refine jj_leftY ?_
      refine jj_catch C [] (⟨0, 11, 14, 25⟩ : ExceptionTableEntry) [(⟨0, 11, 18, 19⟩ : ExceptionTableEntry), (⟨0, 11, 22, 13⟩ : ExceptionTableEntry)] (htab.trans rfl) (fun z hz => by cases hz) (by decide) (by decide) jw_1038 (by decide +kernel) (fun q9 => ?_)
      refine jj_astore C dL_transfer_14 (by decide) rfl ?_
      refine jj_iconst (v := 1) C dL_transfer_16 (by decide) ?_
      exact jj_iret C (Or.inr (Or.inr (Or.inl ⟨c_6, c_7, c_8, rfl, rfl⟩))) dL_transfer_17 (jj_le rfl) (jj_le rfl)
    · refine jj_leftY ?_
      refine jj_catch C [] (⟨0, 11, 14, 25⟩ : ExceptionTableEntry) [(⟨0, 11, 18, 19⟩ : ExceptionTableEntry), (⟨0, 11, 22, 13⟩ : ExceptionTableEntry)] (htab.trans rfl) (fun z hz => by cases hz) (by decide) (by decide) jw_1038 (by decide +kernel) (fun q9 => ?_)
      refine jj_astore C dL_transfer_14 (by decide) rfl ?_
      refine jj_iconst (v := 1) C dL_transfer_16 (by decide) ?_
      exact jj_iret C (Or.inr (Or.inr (Or.inr (Or.inl ⟨c_9, c_10, c_11, c_12, rfl, rfl⟩)))) dL_transfer_17 (jj_le rfl) (jj_le rfl)
    · refine jj_leftY ?_
      refine jj_catch C [(⟨0, 11, 14, 25⟩ : ExceptionTableEntry)] (⟨0, 11, 18, 19⟩ : ExceptionTableEntry) [(⟨0, 11, 22, 13⟩ : ExceptionTableEntry)] (htab.trans rfl) (fun z hz => by rcases List.mem_cons.mp hz with rfl | hz; exact Or.inr ⟨by decide, "java/lang/IndexOutOfBoundsException", jw_1038, by decide +kernel⟩; cases hz) (by decide) (by decide) jw_1001 (by decide +kernel) (fun q9 => ?_)
      refine jj_astore C dL_transfer_18 (by decide) rfl ?_
      refine jj_iconst (v := 2) C dL_transfer_20 (by decide) ?_
      exact jj_iret C (Or.inr (Or.inr (Or.inr (Or.inr (Or.inl ⟨c_13, c_14, c_15, c_16, c_17, rfl, rfl⟩))))) dL_transfer_21 (jj_le rfl) (jj_le rfl)
    · refine jj_leftY ?_
      refine jj_catch C [(⟨0, 11, 14, 25⟩ : ExceptionTableEntry)] (⟨0, 11, 18, 19⟩ : ExceptionTableEntry) [(⟨0, 11, 22, 13⟩ : ExceptionTableEntry)] (htab.trans rfl) (fun z hz => by rcases List.mem_cons.mp hz with rfl | hz; exact Or.inr ⟨by decide, "java/lang/IndexOutOfBoundsException", jw_1038, by decide +kernel⟩; cases hz) (by decide) (by decide) jw_1001 (by decide +kernel) (fun q9 => ?_)
      refine jj_astore C dL_transfer_18 (by decide) rfl ?_
      refine jj_iconst (v := 2) C dL_transfer_20 (by decide) ?_
      exact jj_iret C (Or.inr (Or.inr (Or.inr (Or.inr (Or.inr (Or.inl ⟨c_18, c_19, c_20, c_21, c_22, c_23, rfl, rfl⟩)))))) dL_transfer_21 (jj_le rfl) (jj_le rfl)
    · refine jj_leftY ?_
      refine jj_catch C [(⟨0, 11, 14, 25⟩ : ExceptionTableEntry), (⟨0, 11, 18, 19⟩ : ExceptionTableEntry)] (⟨0, 11, 22, 13⟩ : ExceptionTableEntry) [] (htab.trans rfl) (fun z hz => by rcases List.mem_cons.mp hz with rfl | hz; exact Or.inr ⟨by decide, "java/lang/IndexOutOfBoundsException", jw_1038, by decide +kernel⟩; rcases List.mem_cons.mp hz with rfl | hz; exact Or.inr ⟨by decide, "java/lang/IllegalArgumentException", jw_1001, by decide +kernel⟩; cases hz) (by decide) (by decide) jw_1051 (by decide +kernel) (fun q9 => ?_)
      refine jj_astore C dL_transfer_22 (by decide) rfl ?_
      refine jj_iconst (v := 3) C dL_transfer_24 (by decide) ?_
      exact jj_iret C (Or.inr (Or.inr (Or.inr (Or.inr (Or.inr (Or.inr (Or.inl ⟨c_24, c_25, c_26, c_27, c_28, c_29, c_30, c_31, rfl, rfl⟩))))))) dL_transfer_25 (jj_le rfl) (jj_le rfl)
    · refine jj_leftY ?_
      refine jj_catch C [(⟨0, 11, 14, 25⟩ : ExceptionTableEntry)] (⟨0, 11, 18, 19⟩ : ExceptionTableEntry) [(⟨0, 11, 22, 13⟩ : ExceptionTableEntry)] (htab.trans rfl) (fun z hz => by rcases List.mem_cons.mp hz with rfl | hz; exact Or.inr ⟨by decide, "java/lang/IndexOutOfBoundsException", jw_1038, by decide +kernel⟩; cases hz) (by decide) (by decide) jw_1001 (by decide +kernel) (fun q9 => ?_)
      refine jj_astore C dL_transfer_18 (by decide) rfl ?_
      refine jj_iconst (v := 2) C dL_transfer_20 (by decide) ?_
      exact jj_iret C (Or.inr (Or.inr (Or.inr (Or.inr (Or.inr (Or.inr (Or.inr (Or.inl ⟨c_32, c_33, c_34, c_35, c_36, c_37, c_38, rfl, rfl⟩)))))))) dL_transfer_21 (jj_le rfl) (jj_le rfl)
  · obtain ⟨c_39, c_40, c_41, c_42, c_43, c_44, c_45, c_46, rfl⟩ := O_2
    refine jj_left ?_
    refine jj_last C 0 rfl (vp_in_iff.mpr (by decide)) (g := (vp_updL (fun _ => 0) 0 0)) rfl rfl dL_transfer_10 ?_
    refine jj_goto (tgt := 26) C dL_transfer_11 (by decide) ?_
    refine jj_iconst (v := 0) C dL_transfer_26 (by decide) ?_
    exact jj_iret C (Or.inr (Or.inr (Or.inr (Or.inr (Or.inr (Or.inr (Or.inr (Or.inr ⟨c_39, c_40, c_41, c_42, c_43, c_44, c_45, c_46, rfl, rfl⟩)))))))) dL_transfer_27 (jj_le rfl) (jj_le rfl)


set_option maxHeartbeats 4000000 in
set_option maxRecDepth 100000 in
theorem ct_L_setGate_1 {l : Launch} (hl : l.stackTraces = false) (D : va_G) (cA : Nat → ClassId) (ak : (Nat → Nat) × (Nat → Nat)) (h0 h1 h2 h3 h4 h5 h6 h7 h8 h9 h10 h11 : Nat) (a0 : Int32) : jj_M l D cA ak yL_setGate (.codeWith yL_setGate cL_setGate 4 (some .int) [(0, 9, 12, 19)]) 7 104 63 408 [(h0, .inr (11, [.ref h5, .int 0, .int (-1), .ref h2, .ref h6, .ref h7, .ref h3, .int 0, .int 0, .ref h8])), (h1, .inl (cA 2, 1, .inr (.inl (fun _ => 0)))), (h2, .inr (2, [.int 1, .int 0, .int 0, .int 0, .int 100, .int 0, .int 0, .int 0, .int 0, .int 0, .ref h4, .ref h9, .ref h10, .ref h11])), (h3, .inl (cA 5, 10, .inr (.inr (.inr (.inr (fun _ => none)))))), (h4, .inl (cA 2, 6, .inr (.inl (fun _ => 0))))] [.ref h0, .int a0, .ref h1] (fun (w : va_W) (r : Option Value) => (a0 < 1 ∧ w = [(h1, .inl (cA 2, 1, .inr (.inl (fun _ => 0))))] ∧ r = some (.int 1)) ∨ (¬ a0 < 1 ∧ ¬ a0 ≤ 100 ∧ w = [(h1, .inl (cA 2, 1, .inr (.inl (fun _ => 0))))] ∧ r = some (.int 1)) ∨ (¬ a0 < 1 ∧ a0 ≤ 100 ∧ w = [(h1, .inl (cA 2, 1, .inr (.inl (vp_updL (fun _ => 0) 0 100))))] ∧ r = some (.int 0))) jj_noX := by
  refine jj_startW hl (by decide) jw_1136 (jj_le rfl) ?_
  intro p e s m args below meth c A hargs hA C htab hmn
  refine jj_aload_n C dL_setGate_0 rfl ?_
  refine jj_iconst (v := 0) C dL_setGate_1 (by decide) ?_
  refine jj_aload_n C dL_setGate_2 rfl ?_
  refine jj_iload_n C dL_setGate_3 rfl ?_
  refine jq_callV (rest := [.int 0, .ref h1]) C (ct_X10_setGate_1 hl D cA ak h0 h2 h3 h4 h5 h6 h7 h8 h9 h10 h11 a0) [0, 2, 3, 4] [1] rfl rfl (by decide) (by decide) (by decide) 0 rfl rfl rfl jw_1132 jw_1133 jw_1134 jw_271 jw_470 jn_X10_setGate rfl (jj_le rfl) (jj_le rfl) (jj_le rfl) (jj_le rfl) (jj_le rfl) dL_setGate_4 rfl (fun E w1 X_1 => ?_) (fun w1 r O_2 => ?_)
  · rcases X_1 with ⟨rfl, c_3⟩ | ⟨rfl, c_4, c_5⟩
    · refine jj_leftY ?_
      refine jj_catch C [] (⟨0, 9, 12, 19⟩ : ExceptionTableEntry) [] (htab.trans rfl) (fun z hz => by cases hz) (by decide) (by decide) jw_1001 (by decide +kernel) (fun q9 => ?_)
      refine jj_astore_n C dL_setGate_12 (by decide) rfl ?_
      refine jj_iconst (v := 1) C dL_setGate_13 (by decide) ?_
      exact jj_iret C (Or.inl ⟨c_3, rfl, rfl⟩) dL_setGate_14 (jj_le rfl) (jj_le rfl)
    · refine jj_leftY ?_
      refine jj_catch C [] (⟨0, 9, 12, 19⟩ : ExceptionTableEntry) [] (htab.trans rfl) (fun z hz => by cases hz) (by decide) (by decide) jw_1001 (by decide +kernel) (fun q9 => ?_)
      refine jj_astore_n C dL_setGate_12 (by decide) rfl ?_
      refine jj_iconst (v := 1) C dL_setGate_13 (by decide) ?_
      exact jj_iret C (Or.inr (Or.inl ⟨c_4, c_5, rfl, rfl⟩)) dL_setGate_14 (jj_le rfl) (jj_le rfl)
  · obtain ⟨c_6, c_7, rfl⟩ := O_2
    refine jj_left ?_
    refine jj_i2l (v := 100) C dL_setGate_7 (by decide) ?_
    refine jj_last C 0 rfl (vp_in_iff.mpr (by decide)) (g := (vp_updL (fun _ => 0) 0 100)) rfl rfl dL_setGate_8 ?_
    refine jj_goto (tgt := 15) C dL_setGate_9 (by decide) ?_
    refine jj_iconst (v := 0) C dL_setGate_15 (by decide) ?_
    exact jj_iret C (Or.inr (Or.inr ⟨c_6, c_7, rfl, rfl⟩)) dL_setGate_16 (jj_le rfl) (jj_le rfl)


set_option maxHeartbeats 4000000 in
set_option maxRecDepth 100000 in
theorem ct_L_count_1 {l : Launch} (hl : l.stackTraces = false) (D : va_G) (cA : Nat → ClassId) (ak : (Nat → Nat) × (Nat → Nat)) (h0 h1 h2 h3 h4 h5 h6 h7 h8 h9 h10 h11 : Nat) (a0 : Int32) : jj_M l D cA ak yL_count (.codeWith yL_count cL_count 4 (some .int) [(0, 9, 12, 19)]) 7 103 1 6 [(h0, .inr (11, [.ref h3, .int 0, .int (-1), .ref h2, .ref h4, .ref h5, .ref h6, .int 0, .int 0, .ref h7])), (h1, .inl (cA 2, 1, .inr (.inl (fun _ => 0)))), (h2, .inr (2, [.int 1, .int 0, .int 0, .int 0, .int 100, .int 0, .int 0, .int 0, .int 0, .int 0, .ref h8, .ref h9, .ref h10, .ref h11]))] [.ref h0, .int a0, .ref h1] (fun (w : va_W) (r : Option Value) => (¬ a0 = 0 ∧ ¬ a0 = 1 ∧ ¬ a0 = 2 ∧ ¬ a0 = 3 ∧ ¬ a0 = 4 ∧ ¬ a0 = 5 ∧ ¬ a0 = 6 ∧ ¬ a0 = 7 ∧ ¬ a0 = 8 ∧ ¬ a0 = 9 ∧ w = [(h1, .inl (cA 2, 1, .inr (.inl (fun _ => 0))))] ∧ r = some (.int 1)) ∨ (a0 = 0 ∧ w = [(h1, .inl (cA 2, 1, .inr (.inl (vp_updL (fun _ => 0) 0 1))))] ∧ r = some (.int 0)) ∨ (¬ a0 = 0 ∧ a0 = 1 ∧ w = [(h1, .inl (cA 2, 1, .inr (.inl (vp_updL (fun _ => 0) 0 0))))] ∧ r = some (.int 0)) ∨ (¬ a0 = 0 ∧ ¬ a0 = 1 ∧ a0 = 2 ∧ w = [(h1, .inl (cA 2, 1, .inr (.inl (vp_updL (fun _ => 0) 0 0))))] ∧ r = some (.int 0)) ∨ (¬ a0 = 0 ∧ ¬ a0 = 1 ∧ ¬ a0 = 2 ∧ a0 = 3 ∧ w = [(h1, .inl (cA 2, 1, .inr (.inl (vp_updL (fun _ => 0) 0 0))))] ∧ r = some (.int 0)) ∨ (¬ a0 = 0 ∧ ¬ a0 = 1 ∧ ¬ a0 = 2 ∧ ¬ a0 = 3 ∧ a0 = 4 ∧ w = [(h1, .inl (cA 2, 1, .inr (.inl (vp_updL (fun _ => 0) 0 100))))] ∧ r = some (.int 0)) ∨ (¬ a0 = 0 ∧ ¬ a0 = 1 ∧ ¬ a0 = 2 ∧ ¬ a0 = 3 ∧ ¬ a0 = 4 ∧ a0 = 5 ∧ w = [(h1, .inl (cA 2, 1, .inr (.inl (vp_updL (fun _ => 0) 0 0))))] ∧ r = some (.int 0)) ∨ (¬ a0 = 0 ∧ ¬ a0 = 1 ∧ ¬ a0 = 2 ∧ ¬ a0 = 3 ∧ ¬ a0 = 4 ∧ ¬ a0 = 5 ∧ a0 = 6 ∧ w = [(h1, .inl (cA 2, 1, .inr (.inl (vp_updL (fun _ => 0) 0 0))))] ∧ r = some (.int 0)) ∨ (¬ a0 = 0 ∧ ¬ a0 = 1 ∧ ¬ a0 = 2 ∧ ¬ a0 = 3 ∧ ¬ a0 = 4 ∧ ¬ a0 = 5 ∧ ¬ a0 = 6 ∧ a0 = 7 ∧ w = [(h1, .inl (cA 2, 1, .inr (.inl (vp_updL (fun _ => 0) 0 0))))] ∧ r = some (.int 0)) ∨ (¬ a0 = 0 ∧ ¬ a0 = 1 ∧ ¬ a0 = 2 ∧ ¬ a0 = 3 ∧ ¬ a0 = 4 ∧ ¬ a0 = 5 ∧ ¬ a0 = 6 ∧ ¬ a0 = 7 ∧ a0 = 8 ∧ w = [(h1, .inl (cA 2, 1, .inr (.inl (vp_updL (fun _ => 0) 0 0))))] ∧ r = some (.int 0)) ∨ (¬ a0 = 0 ∧ ¬ a0 = 1 ∧ ¬ a0 = 2 ∧ ¬ a0 = 3 ∧ ¬ a0 = 4 ∧ ¬ a0 = 5 ∧ ¬ a0 = 6 ∧ ¬ a0 = 7 ∧ ¬ a0 = 8 ∧ a0 = 9 ∧ w = [(h1, .inl (cA 2, 1, .inr (.inl (vp_updL (fun _ => 0) 0 0))))] ∧ r = some (.int 0))) jj_noX := by
  refine jj_startW hl (by decide) jw_1156 (jj_le rfl) ?_
  intro p e s m args below meth c A hargs hA C htab hmn
  refine jj_aload_n C dL_count_0 rfl ?_
  refine jj_iconst (v := 0) C dL_count_1 (by decide) ?_
  refine jj_aload_n C dL_count_2 rfl ?_
  refine jj_iload_n C dL_count_3 rfl ?_
  refine jq_callV (rest := [.int 0, .ref h1]) C (ct_X10_count_1 hl D cA ak h0 h2 h3 h4 h5 h6 h7 h8 h9 h10 h11 a0) [0, 2] [1] rfl rfl (by decide) (by decide) (by decide) 0 rfl rfl rfl jw_1152 jw_1153 jw_1154 jw_271 jw_480 jn_X10_count rfl (jj_le rfl) (jj_le rfl) (jj_le rfl) (jj_le rfl) (jj_le rfl) dL_count_4 rfl (fun E w1 X_1 => ?_) (fun w1 r O_2 => ?_)
  · obtain ⟨rfl, c_3, c_4, c_5, c_6, c_7, c_8, c_9, c_10, c_11, c_12⟩ := X_1
    refine jj_leftY ?_
    refine jj_catch C [] (⟨0, 9, 12, 19⟩ : ExceptionTableEntry) [] (htab.trans rfl) (fun z hz => by cases hz) (by decide) (by decide) jw_1001 (by decide +kernel) (fun q9 => ?_)
    refine jj_astore_n C dL_count_12 (by decide) rfl ?_
    refine jj_iconst (v := 1) C dL_count_13 (by decide) ?_
    exact jj_iret C (Or.inl ⟨c_3, c_4, c_5, c_6, c_7, c_8, c_9, c_10, c_11, c_12, rfl, rfl⟩) dL_count_14 (jj_le rfl) (jj_le rfl)
  · rcases O_2 with ⟨c_13, rfl⟩ | ⟨c_14, c_15, rfl⟩ | ⟨c_16, c_17, c_18, rfl⟩ | ⟨c_19, c_20, c_21, c_22, rfl⟩ | ⟨c_23, c_24, c_25, c_26, c_27, rfl⟩ | ⟨c_28, c_29, c_30, c_31, c_32, c_33, rfl⟩ | ⟨c_34, c_35, c_36, c_37, c_38, c_39, c_40, rfl⟩ | ⟨c_41, c_42, c_43, c_44, c_45, c_46, c_47, c_48, rfl⟩ | ⟨c_49, c_50, c_51, c_52, c_53, c_54, c_55, c_56, c_57, rfl⟩ | ⟨c_58, c_59, c_60, c_61, c_62, c_63, c_64, c_65, c_66, c_67, rfl⟩
    · refine jj_left ?_
      refine jj_i2l (v := 1) C dL_count_7 (by decide) ?_
      refine jj_last C 0 rfl (vp_in_iff.mpr (by decide)) (g := (vp_updL (fun _ => 0) 0 1)) rfl rfl dL_count_8 ?_
      refine jj_goto (tgt := 15) C dL_count_9 (by decide) ?_
      refine jj_iconst (v := 0) C dL_count_15 (by decide) ?_
      exact jj_iret C (Or.inr (Or.inl ⟨c_13, rfl, rfl⟩)) dL_count_16 (jj_le rfl) (jj_le rfl)
    · refine jj_left ?_
      refine jj_i2l (v := 0) C dL_count_7 (by decide) ?_
      refine jj_last C 0 rfl (vp_in_iff.mpr (by decide)) (g := (vp_updL (fun _ => 0) 0 0)) rfl rfl dL_count_8 ?_
      refine jj_goto (tgt := 15) C dL_count_9 (by decide) ?_
      refine jj_iconst (v := 0) C dL_count_15 (by decide) ?_
      exact jj_iret C (Or.inr (Or.inr (Or.inl ⟨c_14, c_15, rfl, rfl⟩))) dL_count_16 (jj_le rfl) (jj_le rfl)
    · refine jj_left ?_
      refine jj_i2l (v := 0) C dL_count_7 (by decide) ?_
      refine jj_last C 0 rfl (vp_in_iff.mpr (by decide)) (g := (vp_updL (fun _ => 0) 0 0)) rfl rfl dL_count_8 ?_
      refine jj_goto (tgt := 15) C dL_count_9 (by decide) ?_
      refine jj_iconst (v := 0) C dL_count_15 (by decide) ?_
      exact jj_iret C (Or.inr (Or.inr (Or.inr (Or.inl ⟨c_16, c_17, c_18, rfl, rfl⟩)))) dL_count_16 (jj_le rfl) (jj_le rfl)
    · refine jj_left ?_
      refine jj_i2l (v := 0) C dL_count_7 (by decide) ?_
      refine jj_last C 0 rfl (vp_in_iff.mpr (by decide)) (g := (vp_updL (fun _ => 0) 0 0)) rfl rfl dL_count_8 ?_
      refine jj_goto (tgt := 15) C dL_count_9 (by decide) ?_
      refine jj_iconst (v := 0) C dL_count_15 (by decide) ?_
      exact jj_iret C (Or.inr (Or.inr (Or.inr (Or.inr (Or.inl ⟨c_19, c_20, c_21, c_22, rfl, rfl⟩))))) dL_count_16 (jj_le rfl) (jj_le rfl)
    · refine jj_left ?_
      refine jj_i2l (v := 100) C dL_count_7 (by decide) ?_
      refine jj_last C 0 rfl (vp_in_iff.mpr (by decide)) (g := (vp_updL (fun _ => 0) 0 100)) rfl rfl dL_count_8 ?_
      refine jj_goto (tgt := 15) C dL_count_9 (by decide) ?_
      refine jj_iconst (v := 0) C dL_count_15 (by decide) ?_
      exact jj_iret C (Or.inr (Or.inr (Or.inr (Or.inr (Or.inr (Or.inl ⟨c_23, c_24, c_25, c_26, c_27, rfl, rfl⟩)))))) dL_count_16 (jj_le rfl) (jj_le rfl)
    · refine jj_left ?_
      refine jj_i2l (v := 0) C dL_count_7 (by decide) ?_
      refine jj_last C 0 rfl (vp_in_iff.mpr (by decide)) (g := (vp_updL (fun _ => 0) 0 0)) rfl rfl dL_count_8 ?_
      refine jj_goto (tgt := 15) C dL_count_9 (by decide) ?_
      refine jj_iconst (v := 0) C dL_count_15 (by decide) ?_
      exact jj_iret C (Or.inr (Or.inr (Or.inr (Or.inr (Or.inr (Or.inr (Or.inl ⟨c_28, c_29, c_30, c_31, c_32, c_33, rfl, rfl⟩))))))) dL_count_16 (jj_le rfl) (jj_le rfl)
    · refine jj_left ?_
      refine jj_i2l (v := 0) C dL_count_7 (by decide) ?_
      refine jj_last C 0 rfl (vp_in_iff.mpr (by decide)) (g := (vp_updL (fun _ => 0) 0 0)) rfl rfl dL_count_8 ?_
      refine jj_goto (tgt := 15) C dL_count_9 (by decide) ?_
      refine jj_iconst (v := 0) C dL_count_15 (by decide) ?_
      exact jj_iret C (Or.inr (Or.inr (Or.inr (Or.inr (Or.inr (Or.inr (Or.inr (Or.inl ⟨c_34, c_35, c_36, c_37, c_38, c_39, c_40, rfl, rfl⟩)))))))) dL_count_16 (jj_le rfl) (jj_le rfl)
    · refine jj_left ?_
      refine jj_i2l (v := 0) C dL_count_7 (by decide) ?_
      refine jj_last C 0 rfl (vp_in_iff.mpr (by decide)) (g := (vp_updL (fun _ => 0) 0 0)) rfl rfl dL_count_8 ?_
      refine jj_goto (tgt := 15) C dL_count_9 (by decide) ?_
      refine jj_iconst (v := 0) C dL_count_15 (by decide) ?_
      exact jj_iret C (Or.inr (Or.inr (Or.inr (Or.inr (Or.inr (Or.inr (Or.inr (Or.inr (Or.inl ⟨c_41, c_42, c_43, c_44, c_45, c_46, c_47, c_48, rfl, rfl⟩))))))))) dL_count_16 (jj_le rfl) (jj_le rfl)
    · refine jj_left ?_
      refine jj_i2l (v := 0) C dL_count_7 (by decide) ?_
      refine jj_last C 0 rfl (vp_in_iff.mpr (by decide)) (g := (vp_updL (fun _ => 0) 0 0)) rfl rfl dL_count_8 ?_
      refine jj_goto (tgt := 15) C dL_count_9 (by decide) ?_
      refine jj_iconst (v := 0) C dL_count_15 (by decide) ?_
      exact jj_iret C (Or.inr (Or.inr (Or.inr (Or.inr (Or.inr (Or.inr (Or.inr (Or.inr (Or.inr (Or.inl ⟨c_49, c_50, c_51, c_52, c_53, c_54, c_55, c_56, c_57, rfl, rfl⟩)))))))))) dL_count_16 (jj_le rfl) (jj_le rfl)
    · refine jj_left ?_
      refine jj_i2l (v := 0) C dL_count_7 (by decide) ?_
      refine jj_last C 0 rfl (vp_in_iff.mpr (by decide)) (g := (vp_updL (fun _ => 0) 0 0)) rfl rfl dL_count_8 ?_
      refine jj_goto (tgt := 15) C dL_count_9 (by decide) ?_
      refine jj_iconst (v := 0) C dL_count_15 (by decide) ?_
      exact jj_iret C (Or.inr (Or.inr (Or.inr (Or.inr (Or.inr (Or.inr (Or.inr (Or.inr (Or.inr (Or.inr ⟨c_58, c_59, c_60, c_61, c_62, c_63, c_64, c_65, c_66, c_67, rfl, rfl⟩)))))))))) dL_count_16 (jj_le rfl) (jj_le rfl)


set_option maxHeartbeats 4000000 in
set_option maxRecDepth 100000 in
theorem ct_X11_thrown_7 {l : Launch} (hl : l.stackTraces = false) (D : va_G) (cA : Nat → ClassId) (ak : (Nat → Nat) × (Nat → Nat)) (h0 h1 h2 h3 h4 h5 h6 h7 h8 h9 h10 h11 h12 : Nat) : jj_M l D cA ak yX11_thrown (.code yX11_thrown cX11_thrown 1 (some .int)) 0 0 0 0 [(h0, .inr (12, [.ref h1, .ref h2, .ref h3, .ref h4, .ref h5, .ref h6, .int 0, .int 0, .long 0, .long 0, .ref h7, .ref h8, .ref h9, .int 0, .int 0, .int 0, .int 0, .int 0, .int (-1), .int 0, .int 0, .ref h10, .ref h11, .ref h12, .int 0]))] [.ref h0] (fun (w : va_W) (r : Option Value) => (w = [(h0, .inr (12, [.ref h1, .ref h2, .ref h3, .ref h4, .ref h5, .ref h6, .int 0, .int 0, .long 0, .long 0, .ref h7, .ref h8, .ref h9, .int 0, .int 0, .int 0, .int 0, .int 0, .int (-1), .int 0, .int 0, .ref h10, .ref h11, .ref h12, .int 0]))] ∧ r = some (.int 0))) jj_noX := by
  refine jj_start hl (by decide) jw_992 (jj_le rfl) ?_
  intro p e s m args below meth c A hargs hA C hex hmn
  refine jj_aload_n C dX11_thrown_0 rfl ?_
  refine jj_get C jk_12 7 (by decide) jw_236 0 rfl rfl dX11_thrown_1 ?_
  exact jj_iret C ⟨rfl, rfl⟩ dX11_thrown_4 (jj_le rfl) (jj_le rfl)


set_option maxHeartbeats 4000000 in
set_option maxRecDepth 100000 in
theorem ct_L_account_1 {l : Launch} (hl : l.stackTraces = false) (D : va_G) (cA : Nat → ClassId) (ak : (Nat → Nat) × (Nat → Nat)) (h0 h1 h2 h3 h4 h5 h6 h7 h8 h9 h10 h11 : Nat) (a0 : Int32) : jj_M l D cA ak yL_account (.codeWith yL_account cL_account 4 (some .int) [(0, 8, 11, 19)]) 7 103 1 6 [(h0, .inr (11, [.ref h4, .int 0, .int (-1), .ref h2, .ref h5, .ref h6, .ref h7, .int 0, .int 0, .ref h8])), (h1, .inl (cA 2, 1, .inr (.inl (fun _ => 0)))), (h2, .inr (2, [.int 1, .int 0, .int 0, .int 0, .int 100, .int 0, .int 0, .int 0, .int 0, .int 0, .ref h3, .ref h9, .ref h10, .ref h11])), (h3, .inl (cA 2, 6, .inr (.inl (fun _ => 0))))] [.ref h0, .int a0, .ref h1] (fun (w : va_W) (r : Option Value) => (a0 < 0 ∧ w = [(h1, .inl (cA 2, 1, .inr (.inl (fun _ => 0))))] ∧ r = some (.int 1)) ∨ (¬ a0 < 0 ∧ ¬ a0 < 6 ∧ w = [(h1, .inl (cA 2, 1, .inr (.inl (fun _ => 0))))] ∧ r = some (.int 1)) ∨ (¬ a0 < 0 ∧ a0 < 6 ∧ w = [(h1, .inl (cA 2, 1, .inr (.inl (vp_updL (fun _ => 0) 0 0))))] ∧ r = some (.int 0))) jj_noX := by
  refine jj_startW hl (by decide) jw_1176 (jj_le rfl) ?_
  intro p e s m args below meth c A hargs hA C htab hmn
  refine jj_aload_n C dL_account_0 rfl ?_
  refine jj_iconst (v := 0) C dL_account_1 (by decide) ?_
  refine jj_aload_n C dL_account_2 rfl ?_
  refine jj_iload_n C dL_account_3 rfl ?_
  refine jq_callV (rest := [.int 0, .ref h1]) C (ct_X10_account_1 hl D cA ak h0 h2 h3 h4 h5 h6 h7 h8 h9 h10 h11 a0) [0, 2, 3] [1] rfl rfl (by decide) (by decide) (by decide) 0 rfl rfl rfl jw_1172 jw_1173 jw_1174 jw_271 jw_484 jn_X10_account rfl (jj_le rfl) (jj_le rfl) (jj_le rfl) (jj_le rfl) (jj_le rfl) dL_account_4 rfl (fun E w1 X_1 => ?_) (fun w1 r O_2 => ?_)
  · rcases X_1 with ⟨rfl, c_3⟩ | ⟨rfl, c_4, c_5⟩
    · refine jj_leftY ?_
      refine jj_catch C [] (⟨0, 8, 11, 19⟩ : ExceptionTableEntry) [] (htab.trans rfl) (fun z hz => by cases hz) (by decide) (by decide) jw_1001 (by decide +kernel) (fun q9 => ?_)
      refine jj_astore_n C dL_account_11 (by decide) rfl ?_
      refine jj_iconst (v := 1) C dL_account_12 (by decide) ?_
      exact jj_iret C (Or.inl ⟨c_3, rfl, rfl⟩) dL_account_13 (jj_le rfl) (jj_le rfl)
    · refine jj_leftY ?_
      refine jj_catch C [] (⟨0, 8, 11, 19⟩ : ExceptionTableEntry) [] (htab.trans rfl) (fun z hz => by cases hz) (by decide) (by decide) jw_1001 (by decide +kernel) (fun q9 => ?_)
      refine jj_astore_n C dL_account_11 (by decide) rfl ?_
      refine jj_iconst (v := 1) C dL_account_12 (by decide) ?_
      exact jj_iret C (Or.inr (Or.inl ⟨c_4, c_5, rfl, rfl⟩)) dL_account_13 (jj_le rfl) (jj_le rfl)
  · obtain ⟨c_6, c_7, rfl⟩ := O_2
    refine jj_left ?_
    refine jj_last C 0 rfl (vp_in_iff.mpr (by decide)) (g := (vp_updL (fun _ => 0) 0 0)) rfl rfl dL_account_7 ?_
    refine jj_goto (tgt := 14) C dL_account_8 (by decide) ?_
    refine jj_iconst (v := 0) C dL_account_14 (by decide) ?_
    exact jj_iret C (Or.inr (Or.inr ⟨c_6, c_7, rfl, rfl⟩)) dL_account_15 (jj_le rfl) (jj_le rfl)


set_option maxHeartbeats 4000000 in
set_option maxRecDepth 100000 in
theorem ct_L_openSeries_1 {l : Launch} (hl : l.stackTraces = false) (D : va_G) (cA : Nat → ClassId) (ak : (Nat → Nat) × (Nat → Nat)) (h0 h1 h2 h3 h4 h5 h6 h7 h8 h9 h10 h11 : Nat) (a0 : Int32) : jj_M l D cA ak yL_openSeries (.codeWith yL_openSeries cL_openSeries 4 (some .int) [(0, 9, 12, 25)]) 7 103 1 6 [(h0, .inr (11, [.ref h3, .int 0, .int (-1), .ref h1, .ref h4, .ref h5, .ref h6, .int 0, .int 0, .ref h7])), (h1, .inr (2, [.int 1, .int 0, .int 0, .int 0, .int 100, .int 0, .int 0, .int 0, .int 0, .int 0, .ref h8, .ref h9, .ref h10, .ref h11]))] [.ref h0, .int a0, .ref h2] (fun (w : va_W) (r : Option Value) => (a0 < 0 ∧ w = [] ∧ r = some (.int 1)) ∨ (¬ a0 < 0 ∧ w = [] ∧ r = some (.int 1))) jj_noX := by
  refine jj_startW hl (by decide) jw_1188 (jj_le rfl) ?_
  intro p e s m args below meth c A hargs hA C htab hmn
  refine jj_aload_n C dL_openSeries_0 rfl ?_
  refine jj_iconst (v := 0) C dL_openSeries_1 (by decide) ?_
  refine jj_aload_n C dL_openSeries_2 rfl ?_
  refine jj_iload_n C dL_openSeries_3 rfl ?_
  refine jq_callV (rest := [.int 0, .ref h2]) C (ct_X10_openSeries_1 hl D cA ak h0 h1 h3 h4 h5 h6 h7 h8 h9 h10 h11 a0) [0, 1] [] rfl rfl (by decide) (by decide) (by decide) 0 rfl rfl rfl jw_1184 jw_1185 jw_1186 jw_271 jw_487 jn_X10_openSeries rfl (jj_le rfl) (jj_le rfl) (jj_le rfl) (jj_le rfl) (jj_le rfl) dL_openSeries_4 rfl (fun E w1 X_1 => ?_) (fun w1 r O_2 => ?_)
  · rcases X_1 with ⟨rfl, c_3⟩ | ⟨rfl, c_4⟩
    · refine jj_leftY ?_
      refine jj_catch C [] (⟨0, 9, 12, 25⟩ : ExceptionTableEntry) [] (htab.trans rfl) (fun z hz => by cases hz) (by decide) (by decide) jw_1038 (by decide +kernel) (fun q9 => ?_)
      refine jj_astore_n C dL_openSeries_12 (by decide) rfl ?_
      refine jj_iconst (v := 1) C dL_openSeries_13 (by decide) ?_
      exact jj_iret C (Or.inl ⟨c_3, rfl, rfl⟩) dL_openSeries_14 (jj_le rfl) (jj_le rfl)
    · refine jj_leftY ?_
      refine jj_catch C [] (⟨0, 9, 12, 25⟩ : ExceptionTableEntry) [] (htab.trans rfl) (fun z hz => by cases hz) (by decide) (by decide) jw_1038 (by decide +kernel) (fun q9 => ?_)
      refine jj_astore_n C dL_openSeries_12 (by decide) rfl ?_
      refine jj_iconst (v := 1) C dL_openSeries_13 (by decide) ?_
      exact jj_iret C (Or.inr ⟨c_4, rfl, rfl⟩) dL_openSeries_14 (jj_le rfl) (jj_le rfl)
  · exact O_2.elim


set_option maxHeartbeats 4000000 in
set_option maxRecDepth 100000 in
theorem ct_L_seriesValue_1 {l : Launch} (hl : l.stackTraces = false) (D : va_G) (cA : Nat → ClassId) (ak : (Nat → Nat) × (Nat → Nat)) (h0 h1 h2 h3 h4 h5 h6 h7 h8 h9 h10 h11 : Nat) (a0 : Int32) (a1 : Int32) : jj_M l D cA ak yL_seriesValue (.codeWith yL_seriesValue cL_seriesValue 5 (some .int) [(0, 9, 12, 25), (0, 9, 16, 19)]) 9 147 1 6 [(h0, .inr (11, [.ref h3, .int 0, .int (-1), .ref h1, .ref h4, .ref h5, .ref h6, .int 0, .int 0, .ref h7])), (h1, .inr (2, [.int 1, .int 0, .int 0, .int 0, .int 100, .int 0, .int 0, .int 0, .int 0, .int 0, .ref h8, .ref h9, .ref h10, .ref h11]))] [.ref h0, .int a0, .int a1, .ref h2] (fun (w : va_W) (r : Option Value) => (w = [] ∧ r = some (.int 1))) jj_noX := by
  refine jj_startW hl (by decide) jw_1200 (jj_le rfl) ?_
  intro p e s m args below meth c A hargs hA C htab hmn
  refine jj_aload_n C dL_seriesValue_0 rfl ?_
  refine jj_iconst (v := 0) C dL_seriesValue_1 (by decide) ?_
  refine jj_aload_n C dL_seriesValue_2 rfl ?_
  refine jj_iload_n C dL_seriesValue_3 rfl ?_
  refine jj_iload_n C dL_seriesValue_4 rfl ?_
  refine jq_callV (rest := [.int 0, .ref h2]) C (ct_X10_seriesValue_1 hl D cA ak h0 h1 h3 h4 h5 h6 h7 h8 h9 h10 h11 a0 a1) [0, 1] [] rfl rfl (by decide) (by decide) (by decide) 0 rfl rfl rfl jw_1196 jw_1197 jw_1198 jw_271 jw_500 jn_X10_seriesValue rfl (jj_le rfl) (jj_le rfl) (jj_le rfl) (jj_le rfl) (jj_le rfl) dL_seriesValue_5 rfl (fun E w1 X_1 => ?_) (fun w1 r O_2 => ?_)
  · obtain rfl := X_1
    refine jj_leftY ?_
    refine jj_catch C [] (⟨0, 9, 12, 25⟩ : ExceptionTableEntry) [(⟨0, 9, 16, 19⟩ : ExceptionTableEntry)] (htab.trans rfl) (fun z hz => by cases hz) (by decide) (by decide) jw_1038 (by decide +kernel) (fun q9 => ?_)
    refine jj_astore C dL_seriesValue_12 (by decide) rfl ?_
    refine jj_iconst (v := 1) C dL_seriesValue_14 (by decide) ?_
    exact jj_iret C ⟨rfl, rfl⟩ dL_seriesValue_15 (jj_le rfl) (jj_le rfl)
  · exact O_2.elim


set_option maxHeartbeats 4000000 in
set_option maxRecDepth 100000 in
theorem ct_L_lot_1 {l : Launch} (hl : l.stackTraces = false) (D : va_G) (cA : Nat → ClassId) (ak : (Nat → Nat) × (Nat → Nat)) (h0 h1 h2 h3 h4 h5 h6 h7 h8 h9 h10 h11 : Nat) (a0 : Int32) (a1 : Int32) : jj_M l D cA ak yL_lot (.codeWith yL_lot cL_lot 5 (some .int) [(0, 9, 12, 25), (0, 9, 16, 19)]) 7 105 1 6 [(h0, .inr (11, [.ref h3, .int 0, .int (-1), .ref h1, .ref h4, .ref h5, .ref h6, .int 0, .int 0, .ref h7])), (h1, .inr (2, [.int 1, .int 0, .int 0, .int 0, .int 100, .int 0, .int 0, .int 0, .int 0, .int 0, .ref h8, .ref h9, .ref h10, .ref h11]))] [.ref h0, .int a0, .int a1, .ref h2] (fun (w : va_W) (r : Option Value) => (a0 < 0 ∧ w = [] ∧ r = some (.int 1)) ∨ (¬ a0 < 0 ∧ w = [] ∧ r = some (.int 1))) jj_noX := by
  refine jj_startW hl (by decide) jw_1212 (jj_le rfl) ?_
  intro p e s m args below meth c A hargs hA C htab hmn
  refine jj_aload_n C dL_lot_0 rfl ?_
  refine jj_iconst (v := 0) C dL_lot_1 (by decide) ?_
  refine jj_aload_n C dL_lot_2 rfl ?_
  refine jj_iload_n C dL_lot_3 rfl ?_
  refine jj_iload_n C dL_lot_4 rfl ?_
  refine jq_callV (rest := [.int 0, .ref h2]) C (ct_X10_lot_1 hl D cA ak h0 h1 h3 h4 h5 h6 h7 h8 h9 h10 h11 a0 a1) [0, 1] [] rfl rfl (by decide) (by decide) (by decide) 0 rfl rfl rfl jw_1208 jw_1209 jw_1210 jw_271 jw_507 jn_X10_lot rfl (jj_le rfl) (jj_le rfl) (jj_le rfl) (jj_le rfl) (jj_le rfl) dL_lot_5 rfl (fun E w1 X_1 => ?_) (fun w1 r O_2 => ?_)
  · rcases X_1 with ⟨rfl, c_3⟩ | ⟨rfl, c_4⟩
    · refine jj_leftY ?_
      refine jj_catch C [] (⟨0, 9, 12, 25⟩ : ExceptionTableEntry) [(⟨0, 9, 16, 19⟩ : ExceptionTableEntry)] (htab.trans rfl) (fun z hz => by cases hz) (by decide) (by decide) jw_1038 (by decide +kernel) (fun q9 => ?_)
      refine jj_astore C dL_lot_12 (by decide) rfl ?_
      refine jj_iconst (v := 1) C dL_lot_14 (by decide) ?_
      exact jj_iret C (Or.inl ⟨c_3, rfl, rfl⟩) dL_lot_15 (jj_le rfl) (jj_le rfl)
    · refine jj_leftY ?_
      refine jj_catch C [] (⟨0, 9, 12, 25⟩ : ExceptionTableEntry) [(⟨0, 9, 16, 19⟩ : ExceptionTableEntry)] (htab.trans rfl) (fun z hz => by cases hz) (by decide) (by decide) jw_1038 (by decide +kernel) (fun q9 => ?_)
      refine jj_astore C dL_lot_12 (by decide) rfl ?_
      refine jj_iconst (v := 1) C dL_lot_14 (by decide) ?_
      exact jj_iret C (Or.inr ⟨c_4, rfl, rfl⟩) dL_lot_15 (jj_le rfl) (jj_le rfl)
  · exact O_2.elim


set_option maxHeartbeats 4000000 in
set_option maxRecDepth 100000 in
theorem ct_L_request_1 {l : Launch} (hl : l.stackTraces = false) (D : va_G) (cA : Nat → ClassId) (ak : (Nat → Nat) × (Nat → Nat)) (h0 h1 h2 h3 h4 h5 h6 h7 h8 h9 h10 h11 : Nat) (a0 : Int32) (a1 : Int32) : jj_M l D cA ak yL_request (.codeWith yL_request cL_request 5 (some .int) [(0, 9, 12, 25), (0, 9, 16, 19)]) 9 146 1 6 [(h0, .inr (11, [.ref h3, .int 0, .int (-1), .ref h1, .ref h4, .ref h5, .ref h6, .int 0, .int 0, .ref h7])), (h1, .inr (2, [.int 1, .int 0, .int 0, .int 0, .int 100, .int 0, .int 0, .int 0, .int 0, .int 0, .ref h8, .ref h9, .ref h10, .ref h11]))] [.ref h0, .int a0, .int a1, .ref h2] (fun (w : va_W) (r : Option Value) => (a0 < 0 ∧ w = [] ∧ r = some (.int 1)) ∨ (¬ a0 < 0 ∧ w = [] ∧ r = some (.int 1))) jj_noX := by
  refine jj_startW hl (by decide) jw_1224 (jj_le rfl) ?_
  intro p e s m args below meth c A hargs hA C htab hmn
  refine jj_aload_n C dL_request_0 rfl ?_
  refine jj_iconst (v := 0) C dL_request_1 (by decide) ?_
  refine jj_aload_n C dL_request_2 rfl ?_
  refine jj_iload_n C dL_request_3 rfl ?_
  refine jj_iload_n C dL_request_4 rfl ?_
  refine jq_callV (rest := [.int 0, .ref h2]) C (ct_X10_request_1 hl D cA ak h0 h1 h3 h4 h5 h6 h7 h8 h9 h10 h11 a0 a1) [0, 1] [] rfl rfl (by decide) (by decide) (by decide) 0 rfl rfl rfl jw_1220 jw_1221 jw_1222 jw_271 jw_509 jn_X10_request rfl (jj_le rfl) (jj_le rfl) (jj_le rfl) (jj_le rfl) (jj_le rfl) dL_request_5 rfl (fun E w1 X_1 => ?_) (fun w1 r O_2 => ?_)
  · rcases X_1 with ⟨rfl, c_3⟩ | ⟨rfl, c_4⟩
    · refine jj_leftY ?_
      refine jj_catch C [] (⟨0, 9, 12, 25⟩ : ExceptionTableEntry) [(⟨0, 9, 16, 19⟩ : ExceptionTableEntry)] (htab.trans rfl) (fun z hz => by cases hz) (by decide) (by decide) jw_1038 (by decide +kernel) (fun q9 => ?_)
      refine jj_astore C dL_request_12 (by decide) rfl ?_
      refine jj_iconst (v := 1) C dL_request_14 (by decide) ?_
      exact jj_iret C (Or.inl ⟨c_3, rfl, rfl⟩) dL_request_15 (jj_le rfl) (jj_le rfl)
    · refine jj_leftY ?_
      refine jj_catch C [] (⟨0, 9, 12, 25⟩ : ExceptionTableEntry) [(⟨0, 9, 16, 19⟩ : ExceptionTableEntry)] (htab.trans rfl) (fun z hz => by cases hz) (by decide) (by decide) jw_1038 (by decide +kernel) (fun q9 => ?_)
      refine jj_astore C dL_request_12 (by decide) rfl ?_
      refine jj_iconst (v := 1) C dL_request_14 (by decide) ?_
      exact jj_iret C (Or.inr ⟨c_4, rfl, rfl⟩) dL_request_15 (jj_le rfl) (jj_le rfl)
  · exact O_2.elim


