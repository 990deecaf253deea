set_option maxHeartbeats 4000000 in
set_option maxRecDepth 100000 in
theorem ct_X9_putFour_5 {l : Launch} (hl : l.stackTraces = false) (D : va_G) (cA : Nat → ClassId) (ak : (Nat → Nat) × (Nat → Nat)) (h0 h1 : Nat) (a0 : Int32) (f1 : Nat → Int32) : jj_M l D cA ak yX9_putFour (.code yX9_putFour cX9_putFour 3 none) 0 0 0 0 [(h0, .inr (10, [.ref h1, .int 16, .int 0, .int 0, .int 0, .int 0, .int (-1)])), (h1, .inl (cA 1, 400, .inl f1))] [.ref h0, .int a0] (fun (w : va_W) (r : Option Value) => (∃ (g_4 : Nat → Int32), w = [(h0, .inr (10, [.ref h1, .int 20, .int 0, .int 0, .int 0, .int 0, .int (-1)])), (h1, .inl (cA 1, 400, .inl g_4))] ∧ r = none)) jj_noX := by
  refine jj_start hl (by decide) jw_229 (jj_le rfl) ?_
  intro p e s m args below meth c A hargs hA C hex hmn
  refine jj_bipush (v := 24) C dX9_putFour_0 (by decide) ?_
  refine jj_istore_n C dX9_putFour_2 (by decide) rfl ?_
  refine jj_iload_n C dX9_putFour_3 rfl ?_
  refine jj_if_ltF (tgt := 50) C dX9_putFour_4 (by decide) (by decide) ?_
  refine jj_aload_n C dX9_putFour_7 rfl ?_
  refine jj_get C jk_10 1 (by decide) jw_17 0 rfl rfl dX9_putFour_8 ?_
  refine jj_sipush (v := 400) C dX9_putFour_11 (by decide) ?_
  refine jj_icmp_geF (tgt := 50) C dX9_putFour_14 (by decide) (by decide) ?_
  refine jj_aload_n C dX9_putFour_17 rfl ?_
  refine jj_get C jk_10 0 (by decide) jw_16 0 rfl rfl dX9_putFour_18 ?_
  refine jj_aload_n C dX9_putFour_21 rfl ?_
  refine jj_get C jk_10 1 (by decide) jw_17 0 rfl rfl dX9_putFour_22 ?_
  refine jj_iload_n C dX9_putFour_25 rfl ?_
  refine jj_iload_n C dX9_putFour_26 rfl ?_
  refine jj_iushr C dX9_putFour_27 rfl ?_
  refine jj_sipush (v := 255) C dX9_putFour_28 (by decide) ?_
  refine jj_iand C dX9_putFour_31 rfl ?_
  refine jj_i2c C dX9_putFour_32 rfl ?_
  obtain ⟨g_1, eg_1⟩ : ∃ g : Nat → Int32, upd f1 (16 : Int32).toNatClampNeg (vp_nar .char (((((a0.toUInt32 >>> ((24 : Int32).toUInt32 &&& Int32.toUInt32 31)).toInt32) &&& 255).toUInt32 % 65536).toInt32)) = g := ⟨_, rfl⟩
  refine jj_cast C 1 rfl (vp_in_iff.mpr (by decide)) eg_1 rfl dX9_putFour_33 ?_
  refine jj_aload_n C dX9_putFour_34 rfl ?_
  refine jj_dup C dX9_putFour_35 rfl ?_
  refine jj_get C jk_10 1 (by decide) jw_17 0 rfl rfl dX9_putFour_36 ?_
  refine jj_iconst (v := 1) C dX9_putFour_39 (by decide) ?_
  refine jj_iadd (v := 17) C dX9_putFour_40 (by decide) ?_
  refine jj_put C jk_10 1 (by decide) jw_17 rfl 0 rfl rfl rfl rfl rfl dX9_putFour_41 ?_
  refine jj_iinc (v := 16) C dX9_putFour_44 rfl (by decide) (by decide) rfl ?_
  refine jj_goto (tgt := 3) C dX9_putFour_47 (by decide) ?_
  refine jj_iload_n C dX9_putFour_3 rfl ?_
  refine jj_if_ltF (tgt := 50) C dX9_putFour_4 (by decide) (by decide) ?_
  refine jj_aload_n C dX9_putFour_7 rfl ?_
  refine jj_get C jk_10 1 (by decide) jw_17 0 rfl rfl dX9_putFour_8 ?_
  refine jj_sipush (v := 400) C dX9_putFour_11 (by decide) ?_
  refine jj_icmp_geF (tgt := 50) C dX9_putFour_14 (by decide) (by decide) ?_
  refine jj_aload_n C dX9_putFour_17 rfl ?_
  refine jj_get C jk_10 0 (by decide) jw_16 0 rfl rfl dX9_putFour_18 ?_
  refine jj_aload_n C dX9_putFour_21 rfl ?_
  refine jj_get C jk_10 1 (by decide) jw_17 0 rfl rfl dX9_putFour_22 ?_
  refine jj_iload_n C dX9_putFour_25 rfl ?_
  refine jj_iload_n C dX9_putFour_26 rfl ?_
  refine jj_iushr C dX9_putFour_27 rfl ?_
  refine jj_sipush (v := 255) C dX9_putFour_28 (by decide) ?_
  refine jj_iand C dX9_putFour_31 rfl ?_
  refine jj_i2c C dX9_putFour_32 rfl ?_
  obtain ⟨g_2, eg_2⟩ : ∃ g : Nat → Int32, upd g_1 (17 : Int32).toNatClampNeg (vp_nar .char (((((a0.toUInt32 >>> ((16 : Int32).toUInt32 &&& Int32.toUInt32 31)).toInt32) &&& 255).toUInt32 % 65536).toInt32)) = g := ⟨_, rfl⟩
  refine jj_cast C 1 rfl (vp_in_iff.mpr (by decide)) eg_2 rfl dX9_putFour_33 ?_
  refine jj_aload_n C dX9_putFour_34 rfl ?_
  refine jj_dup C dX9_putFour_35 rfl ?_
  refine jj_get C jk_10 1 (by decide) jw_17 0 rfl rfl dX9_putFour_36 ?_
  refine jj_iconst (v := 1) C dX9_putFour_39 (by decide) ?_
  refine jj_iadd (v := 18) C dX9_putFour_40 (by decide) ?_
  refine jj_put C jk_10 1 (by decide) jw_17 rfl 0 rfl rfl rfl rfl rfl dX9_putFour_41 ?_
  refine jj_iinc (v := 8) C dX9_putFour_44 rfl (by decide) (by decide) rfl ?_
  refine jj_goto (tgt := 3) C dX9_putFour_47 (by decide) ?_
  refine jj_iload_n C dX9_putFour_3 rfl ?_
  refine jj_if_ltF (tgt := 50) C dX9_putFour_4 (by decide) (by decide) ?_
  refine jj_aload_n C dX9_putFour_7 rfl ?_
  refine jj_get C jk_10 1 (by decide) jw_17 0 rfl rfl dX9_putFour_8 ?_
  refine jj_sipush (v := 400) C dX9_putFour_11 (by decide) ?_
  refine jj_icmp_geF (tgt := 50) C dX9_putFour_14 (by decide) (by decide) ?_
  refine jj_aload_n C dX9_putFour_17 rfl ?_
  refine jj_get C jk_10 0 (by decide) jw_16 0 rfl rfl dX9_putFour_18 ?_
  refine jj_aload_n C dX9_putFour_21 rfl ?_
  refine jj_get C jk_10 1 (by decide) jw_17 0 rfl rfl dX9_putFour_22 ?_
  refine jj_iload_n C dX9_putFour_25 rfl ?_
  refine jj_iload_n C dX9_putFour_26 rfl ?_
  refine jj_iushr C dX9_putFour_27 rfl ?_
  refine jj_sipush (v := 255) C dX9_putFour_28 (by decide) ?_
  refine jj_iand C dX9_putFour_31 rfl ?_
  refine jj_i2c C dX9_putFour_32 rfl ?_
  obtain ⟨g_3, eg_3⟩ : ∃ g : Nat → Int32, upd g_2 (18 : Int32).toNatClampNeg (vp_nar .char (((((a0.toUInt32 >>> ((8 : Int32).toUInt32 &&& Int32.toUInt32 31)).toInt32) &&& 255).toUInt32 % 65536).toInt32)) = g := ⟨_, rfl⟩
  refine jj_cast C 1 rfl (vp_in_iff.mpr (by decide)) eg_3 rfl dX9_putFour_33 ?_
  refine jj_aload_n C dX9_putFour_34 rfl ?_
  refine jj_dup C dX9_putFour_35 rfl ?_
  refine jj_get C jk_10 1 (by decide) jw_17 0 rfl rfl dX9_putFour_36 ?_
  refine jj_iconst (v := 1) C dX9_putFour_39 (by decide) ?_
  refine jj_iadd (v := 19) C dX9_putFour_40 (by decide) ?_
  refine jj_put C jk_10 1 (by decide) jw_17 rfl 0 rfl rfl rfl rfl rfl dX9_putFour_41 ?_
  refine jj_iinc (v := 0) C dX9_putFour_44 rfl (by decide) (by decide) rfl ?_
  refine jj_goto (tgt := 3) C dX9_putFour_47 (by decide) ?_
  refine jj_iload_n C dX9_putFour_3 rfl ?_
  refine jj_if_ltF (tgt := 50) C dX9_putFour_4 (by decide) (by decide) ?_
  refine jj_aload_n C dX9_putFour_7 rfl ?_
  refine jj_get C jk_10 1 (by decide) jw_17 0 rfl rfl dX9_putFour_8 ?_
  refine jj_sipush (v := 400) C dX9_putFour_11 (by decide) ?_
  refine jj_icmp_geF (tgt := 50) C dX9_putFour_14 (by decide) (by decide) ?_
  refine jj_aload_n C dX9_putFour_17 rfl ?_
  refine jj_get C jk_10 0 (by decide) jw_16 0 rfl rfl dX9_putFour_18 ?_
  refine jj_aload_n C dX9_putFour_21 rfl ?_
  refine jj_get C jk_10 1 (by decide) jw_17 0 rfl rfl dX9_putFour_22 ?_
  refine jj_iload_n C dX9_putFour_25 rfl ?_
  refine jj_iload_n C dX9_putFour_26 rfl ?_
  refine jj_iushr C dX9_putFour_27 rfl ?_
  refine jj_sipush (v := 255) C dX9_putFour_28 (by decide) ?_
  refine jj_iand C dX9_putFour_31 rfl ?_
  refine jj_i2c C dX9_putFour_32 rfl ?_
  obtain ⟨g_4, eg_4⟩ : ∃ g : Nat → Int32, upd g_3 (19 : Int32).toNatClampNeg (vp_nar .char (((((a0.toUInt32 >>> ((0 : Int32).toUInt32 &&& Int32.toUInt32 31)).toInt32) &&& 255).toUInt32 % 65536).toInt32)) = g := ⟨_, rfl⟩
  refine jj_cast C 1 rfl (vp_in_iff.mpr (by decide)) eg_4 rfl dX9_putFour_33 ?_
  refine jj_aload_n C dX9_putFour_34 rfl ?_
  refine jj_dup C dX9_putFour_35 rfl ?_
  refine jj_get C jk_10 1 (by decide) jw_17 0 rfl rfl dX9_putFour_36 ?_
  refine jj_iconst (v := 1) C dX9_putFour_39 (by decide) ?_
  refine jj_iadd (v := 20) C dX9_putFour_40 (by decide) ?_
  refine jj_put C jk_10 1 (by decide) jw_17 rfl 0 rfl rfl rfl rfl rfl dX9_putFour_41 ?_
  refine jj_iinc (v := (-8)) C dX9_putFour_44 rfl (by decide) (by decide) rfl ?_
  refine jj_goto (tgt := 3) C dX9_putFour_47 (by decide) ?_
  refine jj_iload_n C dX9_putFour_3 rfl ?_
  refine jj_if_ltT (tgt := 50) C dX9_putFour_4 (by decide) (by decide) ?_
  exact jj_vret C ⟨g_4, rfl, rfl⟩ dX9_putFour_50 (jj_le rfl) (jj_le rfl)


set_option maxHeartbeats 4000000 in
set_option maxRecDepth 100000 in
theorem ct_X10_appendText_1 {l : Launch} (hl : l.stackTraces = false) (D : va_G) (cA : Nat → ClassId) (ak : (Nat → Nat) × (Nat → Nat)) (h0 h1 h2 h3 h4 h5 h6 h7 : Nat) (a0 : Int32) (a1 : Int32) (a2 : Int32) (a3 : Int32) (a4 : Int32) : jj_M l D cA ak yX10_appendText (.code yX10_appendText cX10_appendText 6 (some .int)) 1 22 0 0 [(h0, .inr (11, [.ref h1, .int 0, .int (-1), .ref h3, .ref h4, .ref h5, .ref h6, .int 0, .int 0, .ref h7])), (h1, .inr (10, [.ref h2, .int 0, .int 0, .int 0, .int 0, .int 0, .int (-1)])), (h2, .inl (cA 1, 400, .inl (fun _ => 0)))] [.ref h0, .int a0, .int a1, .int a2, .int a3, .int a4] (fun (w : va_W) (r : Option Value) => (r = some (.int 20))) jj_noX := by
  refine jj_start hl (by decide) jw_234 (jj_le rfl) ?_
  intro p e s m args below meth c A hargs hA C hex hmn
  refine jj_aload_n C dX10_appendText_0 rfl ?_
  refine jj_get C jk_11 0 (by decide) jw_26 0 rfl rfl dX10_appendText_1 ?_
  refine jj_get C jk_10 1 (by decide) jw_228 1 rfl rfl dX10_appendText_4 ?_
  refine jj_bipush (v := 20) C dX10_appendText_7 (by decide) ?_
  refine jj_iadd (v := 20) C dX10_appendText_9 (by decide) ?_
  refine jj_sipush (v := 400) C dX10_appendText_10 (by decide) ?_
  refine jj_icmp_leT (tgt := 26) C dX10_appendText_13 (by decide) (by decide) ?_
  refine jj_aload_n C dX10_appendText_26 rfl ?_
  refine jj_get C jk_11 0 (by decide) jw_26 0 rfl rfl dX10_appendText_27 ?_
  refine jj_iload_n C dX10_appendText_30 rfl ?_
  refine jq_callV (rest := []) C (ct_X9_putFour_1 hl D cA ak h1 h2 a0) [1, 2] [0] rfl rfl (by decide) (by decide) (by decide) 0 rfl rfl rfl jw_230 jw_231 jw_232 jw_13 jw_229 jn_X9_putFour rfl (jj_le rfl) (jj_le rfl) (jj_le rfl) (jj_le rfl) (jj_le rfl) dX10_appendText_31 rfl (fun _ _ hX => hX.elim) (fun w1 r O_2 => ?_)
  obtain ⟨f_3, rfl, rfl⟩ := O_2
  refine jj_apd rfl ?_
  refine jj_aload_n C dX10_appendText_34 rfl ?_
  refine jj_get C jk_11 0 (by decide) jw_26 0 rfl rfl dX10_appendText_35 ?_
  refine jj_iload_n C dX10_appendText_38 rfl ?_
  refine jq_callV (rest := []) C (ct_X9_putFour_2 hl D cA ak h1 h2 a1 f_3) [1, 2] [0] rfl rfl (by decide) (by decide) (by decide) 0 rfl rfl rfl jw_230 jw_231 jw_232 jw_13 jw_229 jn_X9_putFour rfl (jj_le rfl) (jj_le rfl) (jj_le rfl) (jj_le rfl) (jj_le rfl) dX10_appendText_39 rfl (fun _ _ hX => hX.elim) (fun w1 r O_5 => ?_)
  obtain ⟨f_6, rfl, rfl⟩ := O_5
  refine jj_apd rfl ?_
  refine jj_aload_n C dX10_appendText_42 rfl ?_
  refine jj_get C jk_11 0 (by decide) jw_26 0 rfl rfl dX10_appendText_43 ?_
  refine jj_iload_n C dX10_appendText_46 rfl ?_
  refine jq_callV (rest := []) C (ct_X9_putFour_3 hl D cA ak h1 h2 a2 f_6) [1, 2] [0] rfl rfl (by decide) (by decide) (by decide) 0 rfl rfl rfl jw_230 jw_231 jw_232 jw_13 jw_229 jn_X9_putFour rfl (jj_le rfl) (jj_le rfl) (jj_le rfl) (jj_le rfl) (jj_le rfl) dX10_appendText_47 rfl (fun _ _ hX => hX.elim) (fun w1 r O_8 => ?_)
  obtain ⟨f_9, rfl, rfl⟩ := O_8
  refine jj_apd rfl ?_
  refine jj_aload_n C dX10_appendText_50 rfl ?_
  refine jj_get C jk_11 0 (by decide) jw_26 0 rfl rfl dX10_appendText_51 ?_
  refine jj_iload C dX10_appendText_54 rfl ?_
  refine jq_callV (rest := []) C (ct_X9_putFour_4 hl D cA ak h1 h2 a3 f_9) [1, 2] [0] rfl rfl (by decide) (by decide) (by decide) 0 rfl rfl rfl jw_230 jw_231 jw_232 jw_13 jw_229 jn_X9_putFour rfl (jj_le rfl) (jj_le rfl) (jj_le rfl) (jj_le rfl) (jj_le rfl) dX10_appendText_56 rfl (fun _ _ hX => hX.elim) (fun w1 r O_11 => ?_)
  obtain ⟨f_12, rfl, rfl⟩ := O_11
  refine jj_apd rfl ?_
  refine jj_aload_n C dX10_appendText_59 rfl ?_
  refine jj_get C jk_11 0 (by decide) jw_26 0 rfl rfl dX10_appendText_60 ?_
  refine jj_iload C dX10_appendText_63 rfl ?_
  refine jq_callV (rest := []) C (ct_X9_putFour_5 hl D cA ak h1 h2 a4 f_12) [1, 2] [0] rfl rfl (by decide) (by decide) (by decide) 0 rfl rfl rfl jw_230 jw_231 jw_232 jw_13 jw_229 jn_X9_putFour rfl (jj_le rfl) (jj_le rfl) (jj_le rfl) (jj_le rfl) (jj_le rfl) dX10_appendText_65 rfl (fun _ _ hX => hX.elim) (fun w1 r O_14 => ?_)
  obtain ⟨f_15, rfl, rfl⟩ := O_14
  refine jj_apd rfl ?_
  refine jj_aload_n C dX10_appendText_68 rfl ?_
  refine jj_get C jk_11 0 (by decide) jw_26 0 rfl rfl dX10_appendText_69 ?_
  refine jj_get C jk_10 1 (by decide) jw_228 1 rfl rfl dX10_appendText_72 ?_
  exact jj_iret C rfl dX10_appendText_75 (jj_le rfl) (jj_le rfl)


set_option maxHeartbeats 4000000 in
set_option maxRecDepth 100000 in
theorem ct_X11_bring_1 {l : Launch} (hl : l.stackTraces = false) (D : va_G) (cA : Nat → ClassId) (ak : (Nat → Nat) × (Nat → Nat)) (h0 h1 h2 h3 h4 h5 h6 h7 h8 h9 h10 h11 h12 : Nat) (a0 : Int32) : jj_M l D cA ak yX11_bring (.code yX11_bring cX11_bring 3 none) 0 0 0 0 [(h0, .inr (12, [.ref h2, .ref h3, .ref h4, .ref h5, .ref h6, .ref h7, .int 0, .int 0, .long 0, .long 0, .ref h8, .ref h9, .ref h1, .int 0, .int 0, .int 0, .int 0, .int 0, .int (-1), .int 0, .int 0, .ref h10, .ref h11, .ref h12, .int 0])), (h1, .inl (cA 0, 400, .inl (fun _ => 0)))] [.ref h0, .int a0] (fun (w : va_W) (r : Option Value) => (∃ (g_4 : Nat → Int32), w = [(h0, .inr (12, [.ref h2, .ref h3, .ref h4, .ref h5, .ref h6, .ref h7, .int 0, .int 0, .long 0, .long 0, .ref h8, .ref h9, .ref h1, .int 4, .int 0, .int 0, .int 0, .int 0, .int (-1), .int 0, .int 0, .ref h10, .ref h11, .ref h12, .int 0])), (h1, .inl (cA 0, 400, .inl g_4))] ∧ r = none)) jj_noX := by
  refine jj_start hl (by decide) jw_237 (jj_le rfl) ?_
  intro p e s m args below meth c A hargs hA C hex hmn
  refine jj_iconst (v := 3) C dX11_bring_0 (by decide) ?_
  refine jj_istore_n C dX11_bring_1 (by decide) rfl ?_
  refine jj_iload_n C dX11_bring_2 rfl ?_
  refine jj_if_ltF (tgt := 35) C dX11_bring_3 (by decide) (by decide) ?_
  refine jj_aload_n C dX11_bring_6 rfl ?_
  refine jj_get C jk_12 12 (by decide) jw_216 0 rfl rfl dX11_bring_7 ?_
  refine jj_aload_n C dX11_bring_10 rfl ?_
  refine jj_dup C dX11_bring_11 rfl ?_
  refine jj_get C jk_12 13 (by decide) jw_235 0 rfl rfl dX11_bring_12 ?_
  refine jj_dup_x1 C dX11_bring_15 rfl rfl ?_
  refine jj_iconst (v := 1) C dX11_bring_16 (by decide) ?_
  refine jj_iadd (v := 1) C dX11_bring_17 (by decide) ?_
  refine jj_put C jk_12 13 (by decide) jw_235 rfl 0 rfl rfl rfl rfl rfl dX11_bring_18 ?_
  refine jj_iload_n C dX11_bring_21 rfl ?_
  refine jj_bipush (v := 8) C dX11_bring_22 (by decide) ?_
  refine jj_iload_n C dX11_bring_24 rfl ?_
  refine jj_imul (v := 24) C dX11_bring_25 (by decide) ?_
  refine jj_ishr C dX11_bring_26 rfl ?_
  refine jj_i2b C dX11_bring_27 rfl ?_
  obtain ⟨g_1, eg_1⟩ : ∃ g : Nat → Int32, upd (fun _ => 0) (0 : Int32).toNatClampNeg (vp_nar .byte ((a0 >>> (24 &&& 31)).toInt8.toInt32)) = g := ⟨_, rfl⟩
  refine jj_bast C 1 rfl (vp_in_iff.mpr (by decide)) eg_1 rfl dX11_bring_28 ?_
  refine jj_iinc (v := 2) C dX11_bring_29 rfl (by decide) (by decide) rfl ?_
  refine jj_goto (tgt := 2) C dX11_bring_32 (by decide) ?_
  refine jj_iload_n C dX11_bring_2 rfl ?_
  refine jj_if_ltF (tgt := 35) C dX11_bring_3 (by decide) (by decide) ?_
  refine jj_aload_n C dX11_bring_6 rfl ?_
  refine jj_get C jk_12 12 (by decide) jw_216 0 rfl rfl dX11_bring_7 ?_
  refine jj_aload_n C dX11_bring_10 rfl ?_
  refine jj_dup C dX11_bring_11 rfl ?_
  refine jj_get C jk_12 13 (by decide) jw_235 0 rfl rfl dX11_bring_12 ?_
  refine jj_dup_x1 C dX11_bring_15 rfl rfl ?_
  refine jj_iconst (v := 1) C dX11_bring_16 (by decide) ?_
  refine jj_iadd (v := 2) C dX11_bring_17 (by decide) ?_
  refine jj_put C jk_12 13 (by decide) jw_235 rfl 0 rfl rfl rfl rfl rfl dX11_bring_18 ?_
  refine jj_iload_n C dX11_bring_21 rfl ?_
  refine jj_bipush (v := 8) C dX11_bring_22 (by decide) ?_
  refine jj_iload_n C dX11_bring_24 rfl ?_
  refine jj_imul (v := 16) C dX11_bring_25 (by decide) ?_
  refine jj_ishr C dX11_bring_26 rfl ?_
  refine jj_i2b C dX11_bring_27 rfl ?_
  obtain ⟨g_2, eg_2⟩ : ∃ g : Nat → Int32, upd g_1 (1 : Int32).toNatClampNeg (vp_nar .byte ((a0 >>> (16 &&& 31)).toInt8.toInt32)) = g := ⟨_, rfl⟩
  refine jj_bast C 1 rfl (vp_in_iff.mpr (by decide)) eg_2 rfl dX11_bring_28 ?_
  refine jj_iinc (v := 1) C dX11_bring_29 rfl (by decide) (by decide) rfl ?_
  refine jj_goto (tgt := 2) C dX11_bring_32 (by decide) ?_
  refine jj_iload_n C dX11_bring_2 rfl ?_
  refine jj_if_ltF (tgt := 35) C dX11_bring_3 (by decide) (by decide) ?_
  refine jj_aload_n C dX11_bring_6 rfl ?_
  refine jj_get C jk_12 12 (by decide) jw_216 0 rfl rfl dX11_bring_7 ?_
  refine jj_aload_n C dX11_bring_10 rfl ?_
  refine jj_dup C dX11_bring_11 rfl ?_
  refine jj_get C jk_12 13 (by decide) jw_235 0 rfl rfl dX11_bring_12 ?_
  refine jj_dup_x1 C dX11_bring_15 rfl rfl ?_
  refine jj_iconst (v := 1) C dX11_bring_16 (by decide) ?_
  refine jj_iadd (v := 3) C dX11_bring_17 (by decide) ?_
  refine jj_put C jk_12 13 (by decide) jw_235 rfl 0 rfl rfl rfl rfl rfl dX11_bring_18 ?_
  refine jj_iload_n C dX11_bring_21 rfl ?_
  refine jj_bipush (v := 8) C dX11_bring_22 (by decide) ?_
  refine jj_iload_n C dX11_bring_24 rfl ?_
  refine jj_imul (v := 8) C dX11_bring_25 (by decide) ?_
  refine jj_ishr C dX11_bring_26 rfl ?_
  refine jj_i2b C dX11_bring_27 rfl ?_
  obtain ⟨g_3, eg_3⟩ : ∃ g : Nat → Int32, upd g_2 (2 : Int32).toNatClampNeg (vp_nar .byte ((a0 >>> (8 &&& 31)).toInt8.toInt32)) = g := ⟨_, rfl⟩
  refine jj_bast C 1 rfl (vp_in_iff.mpr (by decide)) eg_3 rfl dX11_bring_28 ?_
  refine jj_iinc (v := 0) C dX11_bring_29 rfl (by decide) (by decide) rfl ?_
  refine jj_goto (tgt := 2) C dX11_bring_32 (by decide) ?_
  refine jj_iload_n C dX11_bring_2 rfl ?_
  refine jj_if_ltF (tgt := 35) C dX11_bring_3 (by decide) (by decide) ?_
  refine jj_aload_n C dX11_bring_6 rfl ?_
  refine jj_get C jk_12 12 (by decide) jw_216 0 rfl rfl dX11_bring_7 ?_
  refine jj_aload_n C dX11_bring_10 rfl ?_
  refine jj_dup C dX11_bring_11 rfl ?_
  refine jj_get C jk_12 13 (by decide) jw_235 0 rfl rfl dX11_bring_12 ?_
  refine jj_dup_x1 C dX11_bring_15 rfl rfl ?_
  refine jj_iconst (v := 1) C dX11_bring_16 (by decide) ?_
  refine jj_iadd (v := 4) C dX11_bring_17 (by decide) ?_
  refine jj_put C jk_12 13 (by decide) jw_235 rfl 0 rfl rfl rfl rfl rfl dX11_bring_18 ?_
  refine jj_iload_n C dX11_bring_21 rfl ?_
  refine jj_bipush (v := 8) C dX11_bring_22 (by decide) ?_
  refine jj_iload_n C dX11_bring_24 rfl ?_
  refine jj_imul (v := 0) C dX11_bring_25 (by decide) ?_
  refine jj_ishr C dX11_bring_26 rfl ?_
  refine jj_i2b C dX11_bring_27 rfl ?_
  obtain ⟨g_4, eg_4⟩ : ∃ g : Nat → Int32, upd g_3 (3 : Int32).toNatClampNeg (vp_nar .byte ((a0 >>> (0 &&& 31)).toInt8.toInt32)) = g := ⟨_, rfl⟩
  refine jj_bast C 1 rfl (vp_in_iff.mpr (by decide)) eg_4 rfl dX11_bring_28 ?_
  refine jj_iinc (v := (-1)) C dX11_bring_29 rfl (by decide) (by decide) rfl ?_
  refine jj_goto (tgt := 2) C dX11_bring_32 (by decide) ?_
  refine jj_iload_n C dX11_bring_2 rfl ?_
  refine jj_if_ltT (tgt := 35) C dX11_bring_3 (by decide) (by decide) ?_
  exact jj_vret C ⟨g_4, rfl, rfl⟩ dX11_bring_35 (jj_le rfl) (jj_le rfl)


set_option maxHeartbeats 4000000 in
set_option maxRecDepth 100000 in
theorem ct_X11_bring_2 {l : Launch} (hl : l.stackTraces = false) (D : va_G) (cA : Nat → ClassId) (ak : (Nat → Nat) × (Nat → Nat)) (h0 h1 h2 h3 h4 h5 h6 h7 h8 h9 h10 h11 h12 : Nat) (a0 : Int32) (f1 : Nat → Int32) : jj_M l D cA ak yX11_bring (.code yX11_bring cX11_bring 3 none) 0 0 0 0 [(h0, .inr (12, [.ref h2, .ref h3, .ref h4, .ref h5, .ref h6, .ref h7, .int 0, .int 0, .long 0, .long 0, .ref h8, .ref h9, .ref h1, .int 4, .int 0, .int 0, .int 0, .int 0, .int (-1), .int 0, .int 0, .ref h10, .ref h11, .ref h12, .int 0])), (h1, .inl (cA 0, 400, .inl f1))] [.ref h0, .int a0] (fun (w : va_W) (r : Option Value) => (∃ (g_4 : Nat → Int32), w = [(h0, .inr (12, [.ref h2, .ref h3, .ref h4, .ref h5, .ref h6, .ref h7, .int 0, .int 0, .long 0, .long 0, .ref h8, .ref h9, .ref h1, .int 8, .int 0, .int 0, .int 0, .int 0, .int (-1), .int 0, .int 0, .ref h10, .ref h11, .ref h12, .int 0])), (h1, .inl (cA 0, 400, .inl g_4))] ∧ r = none)) jj_noX := by
  refine jj_start hl (by decide) jw_237 (jj_le rfl) ?_
  intro p e s m args below meth c A hargs hA C hex hmn
  refine jj_iconst (v := 3) C dX11_bring_0 (by decide) ?_
  refine jj_istore_n C dX11_bring_1 (by decide) rfl ?_
  refine jj_iload_n C dX11_bring_2 rfl ?_
  refine jj_if_ltF (tgt := 35) C dX11_bring_3 (by decide) (by decide) ?_
  refine jj_aload_n C dX11_bring_6 rfl ?_
  refine jj_get C jk_12 12 (by decide) jw_216 0 rfl rfl dX11_bring_7 ?_
  refine jj_aload_n C dX11_bring_10 rfl ?_
  refine jj_dup C dX11_bring_11 rfl ?_
  refine jj_get C jk_12 13 (by decide) jw_235 0 rfl rfl dX11_bring_12 ?_
  refine jj_dup_x1 C dX11_bring_15 rfl rfl ?_
  refine jj_iconst (v := 1) C dX11_bring_16 (by decide) ?_
  refine jj_iadd (v := 5) C dX11_bring_17 (by decide) ?_
  refine jj_put C jk_12 13 (by decide) jw_235 rfl 0 rfl rfl rfl rfl rfl dX11_bring_18 ?_
  refine jj_iload_n C dX11_bring_21 rfl ?_
  refine jj_bipush (v := 8) C dX11_bring_22 (by decide) ?_
  refine jj_iload_n C dX11_bring_24 rfl ?_
  refine jj_imul (v := 24) C dX11_bring_25 (by decide) ?_
  refine jj_ishr C dX11_bring_26 rfl ?_
  refine jj_i2b C dX11_bring_27 rfl ?_
  obtain ⟨g_1, eg_1⟩ : ∃ g : Nat → Int32, upd f1 (4 : Int32).toNatClampNeg (vp_nar .byte ((a0 >>> (24 &&& 31)).toInt8.toInt32)) = g := ⟨_, rfl⟩
  refine jj_bast C 1 rfl (vp_in_iff.mpr (by decide)) eg_1 rfl dX11_bring_28 ?_
  refine jj_iinc (v := 2) C dX11_bring_29 rfl (by decide) (by decide) rfl ?_
  refine jj_goto (tgt := 2) C dX11_bring_32 (by decide) ?_
  refine jj_iload_n C dX11_bring_2 rfl ?_
  refine jj_if_ltF (tgt := 35) C dX11_bring_3 (by decide) (by decide) ?_
  refine jj_aload_n C dX11_bring_6 rfl ?_
  refine jj_get C jk_12 12 (by decide) jw_216 0 rfl rfl dX11_bring_7 ?_
  refine jj_aload_n C dX11_bring_10 rfl ?_
  refine jj_dup C dX11_bring_11 rfl ?_
  refine jj_get C jk_12 13 (by decide) jw_235 0 rfl rfl dX11_bring_12 ?_
  refine jj_dup_x1 C dX11_bring_15 rfl rfl ?_
  refine jj_iconst (v := 1) C dX11_bring_16 (by decide) ?_
  refine jj_iadd (v := 6) C dX11_bring_17 (by decide) ?_
  refine jj_put C jk_12 13 (by decide) jw_235 rfl 0 rfl rfl rfl rfl rfl dX11_bring_18 ?_
  refine jj_iload_n C dX11_bring_21 rfl ?_
  refine jj_bipush (v := 8) C dX11_bring_22 (by decide) ?_
  refine jj_iload_n C dX11_bring_24 rfl ?_
  refine jj_imul (v := 16) C dX11_bring_25 (by decide) ?_
  refine jj_ishr C dX11_bring_26 rfl ?_
  refine jj_i2b C dX11_bring_27 rfl ?_
  obtain ⟨g_2, eg_2⟩ : ∃ g : Nat → Int32, upd g_1 (5 : Int32).toNatClampNeg (vp_nar .byte ((a0 >>> (16 &&& 31)).toInt8.toInt32)) = g := ⟨_, rfl⟩
  refine jj_bast C 1 rfl (vp_in_iff.mpr (by decide)) eg_2 rfl dX11_bring_28 ?_
  refine jj_iinc (v := 1) C dX11_bring_29 rfl (by decide) (by decide) rfl ?_
  refine jj_goto (tgt := 2) C dX11_bring_32 (by decide) ?_
  refine jj_iload_n C dX11_bring_2 rfl ?_
  refine jj_if_ltF (tgt := 35) C dX11_bring_3 (by decide) (by decide) ?_
  refine jj_aload_n C dX11_bring_6 rfl ?_
  refine jj_get C jk_12 12 (by decide) jw_216 0 rfl rfl dX11_bring_7 ?_
  refine jj_aload_n C dX11_bring_10 rfl ?_
  refine jj_dup C dX11_bring_11 rfl ?_
  refine jj_get C jk_12 13 (by decide) jw_235 0 rfl rfl dX11_bring_12 ?_
  refine jj_dup_x1 C dX11_bring_15 rfl rfl ?_
  refine jj_iconst (v := 1) C dX11_bring_16 (by decide) ?_
  refine jj_iadd (v := 7) C dX11_bring_17 (by decide) ?_
  refine jj_put C jk_12 13 (by decide) jw_235 rfl 0 rfl rfl rfl rfl rfl dX11_bring_18 ?_
  refine jj_iload_n C dX11_bring_21 rfl ?_
  refine jj_bipush (v := 8) C dX11_bring_22 (by decide) ?_
  refine jj_iload_n C dX11_bring_24 rfl ?_
  refine jj_imul (v := 8) C dX11_bring_25 (by decide) ?_
  refine jj_ishr C dX11_bring_26 rfl ?_
  refine jj_i2b C dX11_bring_27 rfl ?_
  obtain ⟨g_3, eg_3⟩ : ∃ g : Nat → Int32, upd g_2 (6 : Int32).toNatClampNeg (vp_nar .byte ((a0 >>> (8 &&& 31)).toInt8.toInt32)) = g := ⟨_, rfl⟩
  refine jj_bast C 1 rfl (vp_in_iff.mpr (by decide)) eg_3 rfl dX11_bring_28 ?_
  refine jj_iinc (v := 0) C dX11_bring_29 rfl (by decide) (by decide) rfl ?_
  refine jj_goto (tgt := 2) C dX11_bring_32 (by decide) ?_
  refine jj_iload_n C dX11_bring_2 rfl ?_
  refine jj_if_ltF (tgt := 35) C dX11_bring_3 (by decide) (by decide) ?_
  refine jj_aload_n C dX11_bring_6 rfl ?_
  refine jj_get C jk_12 12 (by decide) jw_216 0 rfl rfl dX11_bring_7 ?_
  refine jj_aload_n C dX11_bring_10 rfl ?_
  refine jj_dup C dX11_bring_11 rfl ?_
  refine jj_get C jk_12 13 (by decide) jw_235 0 rfl rfl dX11_bring_12 ?_
  refine jj_dup_x1 C dX11_bring_15 rfl rfl ?_
  refine jj_iconst (v := 1) C dX11_bring_16 (by decide) ?_
  refine jj_iadd (v := 8) C dX11_bring_17 (by decide) ?_
  refine jj_put C jk_12 13 (by decide) jw_235 rfl 0 rfl rfl rfl rfl rfl dX11_bring_18 ?_
  refine jj_iload_n C dX11_bring_21 rfl ?_
  refine jj_bipush (v := 8) C dX11_bring_22 (by decide) ?_
  refine jj_iload_n C dX11_bring_24 rfl ?_
  refine jj_imul (v := 0) C dX11_bring_25 (by decide) ?_
  refine jj_ishr C dX11_bring_26 rfl ?_
  refine jj_i2b C dX11_bring_27 rfl ?_
  obtain ⟨g_4, eg_4⟩ : ∃ g : Nat → Int32, upd g_3 (7 : Int32).toNatClampNeg (vp_nar .byte ((a0 >>> (0 &&& 31)).toInt8.toInt32)) = g := ⟨_, rfl⟩
  refine jj_bast C 1 rfl (vp_in_iff.mpr (by decide)) eg_4 rfl dX11_bring_28 ?_
  refine jj_iinc (v := (-1)) C dX11_bring_29 rfl (by decide) (by decide) rfl ?_
  refine jj_goto (tgt := 2) C dX11_bring_32 (by decide) ?_
  refine jj_iload_n C dX11_bring_2 rfl ?_
  refine jj_if_ltT (tgt := 35) C dX11_bring_3 (by decide) (by decide) ?_
  exact jj_vret C ⟨g_4, rfl, rfl⟩ dX11_bring_35 (jj_le rfl) (jj_le rfl)


set_option maxHeartbeats 4000000 in
set_option maxRecDepth 100000 in
theorem ct_X11_bring_3 {l : Launch} (hl : l.stackTraces = false) (D : va_G) (cA : Nat → ClassId) (ak : (Nat → Nat) × (Nat → Nat)) (h0 h1 h2 h3 h4 h5 h6 h7 h8 h9 h10 h11 h12 : Nat) (a0 : Int32) (f1 : Nat → Int32) : jj_M l D cA ak yX11_bring (.code yX11_bring cX11_bring 3 none) 0 0 0 0 [(h0, .inr (12, [.ref h2, .ref h3, .ref h4, .ref h5, .ref h6, .ref h7, .int 0, .int 0, .long 0, .long 0, .ref h8, .ref h9, .ref h1, .int 8, .int 0, .int 0, .int 0, .int 0, .int (-1), .int 0, .int 0, .ref h10, .ref h11, .ref h12, .int 0])), (h1, .inl (cA 0, 400, .inl f1))] [.ref h0, .int a0] (fun (w : va_W) (r : Option Value) => (∃ (g_4 : Nat → Int32), w = [(h0, .inr (12, [.ref h2, .ref h3, .ref h4, .ref h5, .ref h6, .ref h7, .int 0, .int 0, .long 0, .long 0, .ref h8, .ref h9, .ref h1, .int 12, .int 0, .int 0, .int 0, .int 0, .int (-1), .int 0, .int 0, .ref h10, .ref h11, .ref h12, .int 0])), (h1, .inl (cA 0, 400, .inl g_4))] ∧ r = none)) jj_noX := by
  refine jj_start hl (by decide) jw_237 (jj_le rfl) ?_
  intro p e s m args below meth c A hargs hA C hex hmn
  refine jj_iconst (v := 3) C dX11_bring_0 (by decide) ?_
  refine jj_istore_n C dX11_bring_1 (by decide) rfl ?_
  refine jj_iload_n C dX11_bring_2 rfl ?_
  refine jj_if_ltF (tgt := 35) C dX11_bring_3 (by decide) (by decide) ?_
  refine jj_aload_n C dX11_bring_6 rfl ?_
  refine jj_get C jk_12 12 (by decide) jw_216 0 rfl rfl dX11_bring_7 ?_
  refine jj_aload_n C dX11_bring_10 rfl ?_
  refine jj_dup C dX11_bring_11 rfl ?_
  refine jj_get C jk_12 13 (by decide) jw_235 0 rfl rfl dX11_bring_12 ?_
  refine jj_dup_x1 C dX11_bring_15 rfl rfl ?_
  refine jj_iconst (v := 1) C dX11_bring_16 (by decide) ?_
  refine jj_iadd (v := 9) C dX11_bring_17 (by decide) ?_
  refine jj_put C jk_12 13 (by decide) jw_235 rfl 0 rfl rfl rfl rfl rfl dX11_bring_18 ?_
  refine jj_iload_n C dX11_bring_21 rfl ?_
  refine jj_bipush (v := 8) C dX11_bring_22 (by decide) ?_
  refine jj_iload_n C dX11_bring_24 rfl ?_
  refine jj_imul (v := 24) C dX11_bring_25 (by decide) ?_
  refine jj_ishr C dX11_bring_26 rfl ?_
  refine jj_i2b C dX11_bring_27 rfl ?_
  obtain ⟨g_1, eg_1⟩ : ∃ g : Nat → Int32, upd f1 (8 : Int32).toNatClampNeg (vp_nar .byte ((a0 >>> (24 &&& 31)).toInt8.toInt32)) = g := ⟨_, rfl⟩
  refine jj_bast C 1 rfl (vp_in_iff.mpr (by decide)) eg_1 rfl dX11_bring_28 ?_
  refine jj_iinc (v := 2) C dX11_bring_29 rfl (by decide) (by decide) rfl ?_
  refine jj_goto (tgt := 2) C dX11_bring_32 (by decide) ?_
  refine jj_iload_n C dX11_bring_2 rfl ?_
  refine jj_if_ltF (tgt := 35) C dX11_bring_3 (by decide) (by decide) ?_
  refine jj_aload_n C dX11_bring_6 rfl ?_
  refine jj_get C jk_12 12 (by decide) jw_216 0 rfl rfl dX11_bring_7 ?_
  refine jj_aload_n C dX11_bring_10 rfl ?_
  refine jj_dup C dX11_bring_11 rfl ?_
  refine jj_get C jk_12 13 (by decide) jw_235 0 rfl rfl dX11_bring_12 ?_
  refine jj_dup_x1 C dX11_bring_15 rfl rfl ?_
  refine jj_iconst (v := 1) C dX11_bring_16 (by decide) ?_
  refine jj_iadd (v := 10) C dX11_bring_17 (by decide) ?_
  refine jj_put C jk_12 13 (by decide) jw_235 rfl 0 rfl rfl rfl rfl rfl dX11_bring_18 ?_
  refine jj_iload_n C dX11_bring_21 rfl ?_
  refine jj_bipush (v := 8) C dX11_bring_22 (by decide) ?_
  refine jj_iload_n C dX11_bring_24 rfl ?_
  refine jj_imul (v := 16) C dX11_bring_25 (by decide) ?_
  refine jj_ishr C dX11_bring_26 rfl ?_
  refine jj_i2b C dX11_bring_27 rfl ?_
  obtain ⟨g_2, eg_2⟩ : ∃ g : Nat → Int32, upd g_1 (9 : Int32).toNatClampNeg (vp_nar .byte ((a0 >>> (16 &&& 31)).toInt8.toInt32)) = g := ⟨_, rfl⟩
  refine jj_bast C 1 rfl (vp_in_iff.mpr (by decide)) eg_2 rfl dX11_bring_28 ?_
  refine jj_iinc (v := 1) C dX11_bring_29 rfl (by decide) (by decide) rfl ?_
  refine jj_goto (tgt := 2) C dX11_bring_32 (by decide) ?_
  refine jj_iload_n C dX11_bring_2 rfl ?_
  refine jj_if_ltF (tgt := 35) C dX11_bring_3 (by decide) (by decide) ?_
  refine jj_aload_n C dX11_bring_6 rfl ?_
  refine jj_get C jk_12 12 (by decide) jw_216 0 rfl rfl dX11_bring_7 ?_
  refine jj_aload_n C dX11_bring_10 rfl ?_
  refine jj_dup C dX11_bring_11 rfl ?_
  refine jj_get C jk_12 13 (by decide) jw_235 0 rfl rfl dX11_bring_12 ?_
  refine jj_dup_x1 C dX11_bring_15 rfl rfl ?_
  refine jj_iconst (v := 1) C dX11_bring_16 (by decide) ?_
  refine jj_iadd (v := 11) C dX11_bring_17 (by decide) ?_
  refine jj_put C jk_12 13 (by decide) jw_235 rfl 0 rfl rfl rfl rfl rfl dX11_bring_18 ?_
  refine jj_iload_n C dX11_bring_21 rfl ?_
  refine jj_bipush (v := 8) C dX11_bring_22 (by decide) ?_
  refine jj_iload_n C dX11_bring_24 rfl ?_
  refine jj_imul (v := 8) C dX11_bring_25 (by decide) ?_
  refine jj_ishr C dX11_bring_26 rfl ?_
  refine jj_i2b C dX11_bring_27 rfl ?_
  obtain ⟨g_3, eg_3⟩ : ∃ g : Nat → Int32, upd g_2 (10 : Int32).toNatClampNeg (vp_nar .byte ((a0 >>> (8 &&& 31)).toInt8.toInt32)) = g := ⟨_, rfl⟩
  refine jj_bast C 1 rfl (vp_in_iff.mpr (by decide)) eg_3 rfl dX11_bring_28 ?_
  refine jj_iinc (v := 0) C dX11_bring_29 rfl (by decide) (by decide) rfl ?_
  refine jj_goto (tgt := 2) C dX11_bring_32 (by decide) ?_
  refine jj_iload_n C dX11_bring_2 rfl ?_
  refine jj_if_ltF (tgt := 35) C dX11_bring_3 (by decide) (by decide) ?_
  refine jj_aload_n C dX11_bring_6 rfl ?_
  refine jj_get C jk_12 12 (by decide) jw_216 0 rfl rfl dX11_bring_7 ?_
  refine jj_aload_n C dX11_bring_10 rfl ?_
  refine jj_dup C dX11_bring_11 rfl ?_
  refine jj_get C jk_12 13 (by decide) jw_235 0 rfl rfl dX11_bring_12 ?_
  refine jj_dup_x1 C dX11_bring_15 rfl rfl ?_
  refine jj_iconst (v := 1) C dX11_bring_16 (by decide) ?_
  refine jj_iadd (v := 12) C dX11_bring_17 (by decide) ?_
  refine jj_put C jk_12 13 (by decide) jw_235 rfl 0 rfl rfl rfl rfl rfl dX11_bring_18 ?_
  refine jj_iload_n C dX11_bring_21 rfl ?_
  refine jj_bipush (v := 8) C dX11_bring_22 (by decide) ?_
  refine jj_iload_n C dX11_bring_24 rfl ?_
  refine jj_imul (v := 0) C dX11_bring_25 (by decide) ?_
  refine jj_ishr C dX11_bring_26 rfl ?_
  refine jj_i2b C dX11_bring_27 rfl ?_
  obtain ⟨g_4, eg_4⟩ : ∃ g : Nat → Int32, upd g_3 (11 : Int32).toNatClampNeg (vp_nar .byte ((a0 >>> (0 &&& 31)).toInt8.toInt32)) = g := ⟨_, rfl⟩
  refine jj_bast C 1 rfl (vp_in_iff.mpr (by decide)) eg_4 rfl dX11_bring_28 ?_
  refine jj_iinc (v := (-1)) C dX11_bring_29 rfl (by decide) (by decide) rfl ?_
  refine jj_goto (tgt := 2) C dX11_bring_32 (by decide) ?_
  refine jj_iload_n C dX11_bring_2 rfl ?_
  refine jj_if_ltT (tgt := 35) C dX11_bring_3 (by decide) (by decide) ?_
  exact jj_vret C ⟨g_4, rfl, rfl⟩ dX11_bring_35 (jj_le rfl) (jj_le rfl)


set_option maxHeartbeats 4000000 in
set_option maxRecDepth 100000 in
theorem ct_X11_bring_4 {l : Launch} (hl : l.stackTraces = false) (D : va_G) (cA : Nat → ClassId) (ak : (Nat → Nat) × (Nat → Nat)) (h0 h1 h2 h3 h4 h5 h6 h7 h8 h9 h10 h11 h12 : Nat) (a0 : Int32) (f1 : Nat → Int32) : jj_M l D cA ak yX11_bring (.code yX11_bring cX11_bring 3 none) 0 0 0 0 [(h0, .inr (12, [.ref h2, .ref h3, .ref h4, .ref h5, .ref h6, .ref h7, .int 0, .int 0, .long 0, .long 0, .ref h8, .ref h9, .ref h1, .int 12, .int 0, .int 0, .int 0, .int 0, .int (-1), .int 0, .int 0, .ref h10, .ref h11, .ref h12, .int 0])), (h1, .inl (cA 0, 400, .inl f1))] [.ref h0, .int a0] (fun (w : va_W) (r : Option Value) => (∃ (g_4 : Nat → Int32), w = [(h0, .inr (12, [.ref h2, .ref h3, .ref h4, .ref h5, .ref h6, .ref h7, .int 0, .int 0, .long 0, .long 0, .ref h8, .ref h9, .ref h1, .int 16, .int 0, .int 0, .int 0, .int 0, .int (-1), .int 0, .int 0, .ref h10, .ref h11, .ref h12, .int 0])), (h1, .inl (cA 0, 400, .inl g_4))] ∧ r = none)) jj_noX := by
  refine jj_start hl (by decide) jw_237 (jj_le rfl) ?_
  intro p e s m args below meth c A hargs hA C hex hmn
  refine jj_iconst (v := 3) C dX11_bring_0 (by decide) ?_
  refine jj_istore_n C dX11_bring_1 (by decide) rfl ?_
  refine jj_iload_n C dX11_bring_2 rfl ?_
  refine jj_if_ltF (tgt := 35) C dX11_bring_3 (by decide) (by decide) ?_
  refine jj_aload_n C dX11_bring_6 rfl ?_
  refine jj_get C jk_12 12 (by decide) jw_216 0 rfl rfl dX11_bring_7 ?_
  refine jj_aload_n C dX11_bring_10 rfl ?_
  refine jj_dup C dX11_bring_11 rfl ?_
  refine jj_get C jk_12 13 (by decide) jw_235 0 rfl rfl dX11_bring_12 ?_
  refine jj_dup_x1 C dX11_bring_15 rfl rfl ?_
  refine jj_iconst (v := 1) C dX11_bring_16 (by decide) ?_
  refine jj_iadd (v := 13) C dX11_bring_17 (by decide) ?_
  refine jj_put C jk_12 13 (by decide) jw_235 rfl 0 rfl rfl rfl rfl rfl dX11_bring_18 ?_
  refine jj_iload_n C dX11_bring_21 rfl ?_
  refine jj_bipush (v := 8) C dX11_bring_22 (by decide) ?_
  refine jj_iload_n C dX11_bring_24 rfl ?_
  refine jj_imul (v := 24) C dX11_bring_25 (by decide) ?_
  refine jj_ishr C dX11_bring_26 rfl ?_
  refine jj_i2b C dX11_bring_27 rfl ?_
  obtain ⟨g_1, eg_1⟩ : ∃ g : Nat → Int32, upd f1 (12 : Int32).toNatClampNeg (vp_nar .byte ((a0 >>> (24 &&& 31)).toInt8.toInt32)) = g := ⟨_, rfl⟩
  refine jj_bast C 1 rfl (vp_in_iff.mpr (by decide)) eg_1 rfl dX11_bring_28 ?_
  refine jj_iinc (v := 2) C dX11_bring_29 rfl (by decide) (by decide) rfl ?_
  refine jj_goto (tgt := 2) C dX11_bring_32 (by decide) ?_
  refine jj_iload_n C dX11_bring_2 rfl ?_
  refine jj_if_ltF (tgt := 35) C dX11_bring_3 (by decide) (by decide) ?_
  refine jj_aload_n C dX11_bring_6 rfl ?_
  refine jj_get C jk_12 12 (by decide) jw_216 0 rfl rfl dX11_bring_7 ?_
  refine jj_aload_n C dX11_bring_10 rfl ?_
  refine jj_dup C dX11_bring_11 rfl ?_
  refine jj_get C jk_12 13 (by decide) jw_235 0 rfl rfl dX11_bring_12 ?_
  refine jj_dup_x1 C dX11_bring_15 rfl rfl ?_
  refine jj_iconst (v := 1) C dX11_bring_16 (by decide) ?_
  refine jj_iadd (v := 14) C dX11_bring_17 (by decide) ?_
  refine jj_put C jk_12 13 (by decide) jw_235 rfl 0 rfl rfl rfl rfl rfl dX11_bring_18 ?_
  refine jj_iload_n C dX11_bring_21 rfl ?_
  refine jj_bipush (v := 8) C dX11_bring_22 (by decide) ?_
  refine jj_iload_n C dX11_bring_24 rfl ?_
  refine jj_imul (v := 16) C dX11_bring_25 (by decide) ?_
  refine jj_ishr C dX11_bring_26 rfl ?_
  refine jj_i2b C dX11_bring_27 rfl ?_
  obtain ⟨g_2, eg_2⟩ : ∃ g : Nat → Int32, upd g_1 (13 : Int32).toNatClampNeg (vp_nar .byte ((a0 >>> (16 &&& 31)).toInt8.toInt32)) = g := ⟨_, rfl⟩
  refine jj_bast C 1 rfl (vp_in_iff.mpr (by decide)) eg_2 rfl dX11_bring_28 ?_
  refine jj_iinc (v := 1) C dX11_bring_29 rfl (by decide) (by decide) rfl ?_
  refine jj_goto (tgt := 2) C dX11_bring_32 (by decide) ?_
  refine jj_iload_n C dX11_bring_2 rfl ?_
  refine jj_if_ltF (tgt := 35) C dX11_bring_3 (by decide) (by decide) ?_
  refine jj_aload_n C dX11_bring_6 rfl ?_
  refine jj_get C jk_12 12 (by decide) jw_216 0 rfl rfl dX11_bring_7 ?_
  refine jj_aload_n C dX11_bring_10 rfl ?_
  refine jj_dup C dX11_bring_11 rfl ?_
  refine jj_get C jk_12 13 (by decide) jw_235 0 rfl rfl dX11_bring_12 ?_
  refine jj_dup_x1 C dX11_bring_15 rfl rfl ?_
  refine jj_iconst (v := 1) C dX11_bring_16 (by decide) ?_
  refine jj_iadd (v := 15) C dX11_bring_17 (by decide) ?_
  refine jj_put C jk_12 13 (by decide) jw_235 rfl 0 rfl rfl rfl rfl rfl dX11_bring_18 ?_
  refine jj_iload_n C dX11_bring_21 rfl ?_
  refine jj_bipush (v := 8) C dX11_bring_22 (by decide) ?_
  refine jj_iload_n C dX11_bring_24 rfl ?_
  refine jj_imul (v := 8) C dX11_bring_25 (by decide) ?_
  refine jj_ishr C dX11_bring_26 rfl ?_
  refine jj_i2b C dX11_bring_27 rfl ?_
  obtain ⟨g_3, eg_3⟩ : ∃ g : Nat → Int32, upd g_2 (14 : Int32).toNatClampNeg (vp_nar .byte ((a0 >>> (8 &&& 31)).toInt8.toInt32)) = g := ⟨_, rfl⟩
  refine jj_bast C 1 rfl (vp_in_iff.mpr (by decide)) eg_3 rfl dX11_bring_28 ?_
  refine jj_iinc (v := 0) C dX11_bring_29 rfl (by decide) (by decide) rfl ?_
  refine jj_goto (tgt := 2) C dX11_bring_32 (by decide) ?_
  refine jj_iload_n C dX11_bring_2 rfl ?_
  refine jj_if_ltF (tgt := 35) C dX11_bring_3 (by decide) (by decide) ?_
  refine jj_aload_n C dX11_bring_6 rfl ?_
  refine jj_get C jk_12 12 (by decide) jw_216 0 rfl rfl dX11_bring_7 ?_
  refine jj_aload_n C dX11_bring_10 rfl ?_
  refine jj_dup C dX11_bring_11 rfl ?_
  refine jj_get C jk_12 13 (by decide) jw_235 0 rfl rfl dX11_bring_12 ?_
  refine jj_dup_x1 C dX11_bring_15 rfl rfl ?_
  refine jj_iconst (v := 1) C dX11_bring_16 (by decide) ?_
  refine jj_iadd (v := 16) C dX11_bring_17 (by decide) ?_
  refine jj_put C jk_12 13 (by decide) jw_235 rfl 0 rfl rfl rfl rfl rfl dX11_bring_18 ?_
  refine jj_iload_n C dX11_bring_21 rfl ?_
  refine jj_bipush (v := 8) C dX11_bring_22 (by decide) ?_
  refine jj_iload_n C dX11_bring_24 rfl ?_
  refine jj_imul (v := 0) C dX11_bring_25 (by decide) ?_
  refine jj_ishr C dX11_bring_26 rfl ?_
  refine jj_i2b C dX11_bring_27 rfl ?_
  obtain ⟨g_4, eg_4⟩ : ∃ g : Nat → Int32, upd g_3 (15 : Int32).toNatClampNeg (vp_nar .byte ((a0 >>> (0 &&& 31)).toInt8.toInt32)) = g := ⟨_, rfl⟩
  refine jj_bast C 1 rfl (vp_in_iff.mpr (by decide)) eg_4 rfl dX11_bring_28 ?_
  refine jj_iinc (v := (-1)) C dX11_bring_29 rfl (by decide) (by decide) rfl ?_
  refine jj_goto (tgt := 2) C dX11_bring_32 (by decide) ?_
  refine jj_iload_n C dX11_bring_2 rfl ?_
  refine jj_if_ltT (tgt := 35) C dX11_bring_3 (by decide) (by decide) ?_
  exact jj_vret C ⟨g_4, rfl, rfl⟩ dX11_bring_35 (jj_le rfl) (jj_le rfl)


set_option maxHeartbeats 4000000 in
set_option maxRecDepth 100000 in
theorem ct_X11_bring_5 {l : Launch} (hl : l.stackTraces = false) (D : va_G) (cA : Nat → ClassId) (ak : (Nat → Nat) × (Nat → Nat)) (h0 h1 h2 h3 h4 h5 h6 h7 h8 h9 h10 h11 h12 : Nat) (a0 : Int32) (f1 : Nat → Int32) : jj_M l D cA ak yX11_bring (.code yX11_bring cX11_bring 3 none) 0 0 0 0 [(h0, .inr (12, [.ref h2, .ref h3, .ref h4, .ref h5, .ref h6, .ref h7, .int 0, .int 0, .long 0, .long 0, .ref h8, .ref h9, .ref h1, .int 16, .int 0, .int 0, .int 0, .int 0, .int (-1), .int 0, .int 0, .ref h10, .ref h11, .ref h12, .int 0])), (h1, .inl (cA 0, 400, .inl f1))] [.ref h0, .int a0] (fun (w : va_W) (r : Option Value) => (∃ (g_4 : Nat → Int32), w = [(h0, .inr (12, [.ref h2, .ref h3, .ref h4, .ref h5, .ref h6, .ref h7, .int 0, .int 0, .long 0, .long 0, .ref h8, .ref h9, .ref h1, .int 20, .int 0, .int 0, .int 0, .int 0, .int (-1), .int 0, .int 0, .ref h10, .ref h11, .ref h12, .int 0])), (h1, .inl (cA 0, 400, .inl g_4))] ∧ r = none)) jj_noX := by
  refine jj_start hl (by decide) jw_237 (jj_le rfl) ?_
  intro p e s m args below meth c A hargs hA C hex hmn
  refine jj_iconst (v := 3) C dX11_bring_0 (by decide) ?_
  refine jj_istore_n C dX11_bring_1 (by decide) rfl ?_
  refine jj_iload_n C dX11_bring_2 rfl ?_
  refine jj_if_ltF (tgt := 35) C dX11_bring_3 (by decide) (by decide) ?_
  refine jj_aload_n C dX11_bring_6 rfl ?_
  refine jj_get C jk_12 12 (by decide) jw_216 0 rfl rfl dX11_bring_7 ?_
  refine jj_aload_n C dX11_bring_10 rfl ?_
  refine jj_dup C dX11_bring_11 rfl ?_
  refine jj_get C jk_12 13 (by decide) jw_235 0 rfl rfl dX11_bring_12 ?_
  refine jj_dup_x1 C dX11_bring_15 rfl rfl ?_
  refine jj_iconst (v := 1) C dX11_bring_16 (by decide) ?_
  refine jj_iadd (v := 17) C dX11_bring_17 (by decide) ?_
  refine jj_put C jk_12 13 (by decide) jw_235 rfl 0 rfl rfl rfl rfl rfl dX11_bring_18 ?_
  refine jj_iload_n C dX11_bring_21 rfl ?_
  refine jj_bipush (v := 8) C dX11_bring_22 (by decide) ?_
  refine jj_iload_n C dX11_bring_24 rfl ?_
  refine jj_imul (v := 24) C dX11_bring_25 (by decide) ?_
  refine jj_ishr C dX11_bring_26 rfl ?_
  refine jj_i2b C dX11_bring_27 rfl ?_
  obtain ⟨g_1, eg_1⟩ : ∃ g : Nat → Int32, upd f1 (16 : Int32).toNatClampNeg (vp_nar .byte ((a0 >>> (24 &&& 31)).toInt8.toInt32)) = g := ⟨_, rfl⟩
  refine jj_bast C 1 rfl (vp_in_iff.mpr (by decide)) eg_1 rfl dX11_bring_28 ?_
  refine jj_iinc (v := 2) C dX11_bring_29 rfl (by decide) (by decide) rfl ?_
  refine jj_goto (tgt := 2) C dX11_bring_32 (by decide) ?_
  refine jj_iload_n C dX11_bring_2 rfl ?_
  refine jj_if_ltF (tgt := 35) C dX11_bring_3 (by decide) (by decide) ?_
  refine jj_aload_n C dX11_bring_6 rfl ?_
  refine jj_get C jk_12 12 (by decide) jw_216 0 rfl rfl dX11_bring_7 ?_
  refine jj_aload_n C dX11_bring_10 rfl ?_
  refine jj_dup C dX11_bring_11 rfl ?_
  refine jj_get C jk_12 13 (by decide) jw_235 0 rfl rfl dX11_bring_12 ?_
  refine jj_dup_x1 C dX11_bring_15 rfl rfl ?_
  refine jj_iconst (v := 1) C dX11_bring_16 (by decide) ?_
  refine jj_iadd (v := 18) C dX11_bring_17 (by decide) ?_
  refine jj_put C jk_12 13 (by decide) jw_235 rfl 0 rfl rfl rfl rfl rfl dX11_bring_18 ?_
  refine jj_iload_n C dX11_bring_21 rfl ?_
  refine jj_bipush (v := 8) C dX11_bring_22 (by decide) ?_
  refine jj_iload_n C dX11_bring_24 rfl ?_
  refine jj_imul (v := 16) C dX11_bring_25 (by decide) ?_
  refine jj_ishr C dX11_bring_26 rfl ?_
  refine jj_i2b C dX11_bring_27 rfl ?_
  obtain ⟨g_2, eg_2⟩ : ∃ g : Nat → Int32, upd g_1 (17 : Int32).toNatClampNeg (vp_nar .byte ((a0 >>> (16 &&& 31)).toInt8.toInt32)) = g := ⟨_, rfl⟩
  refine jj_bast C 1 rfl (vp_in_iff.mpr (by decide)) eg_2 rfl dX11_bring_28 ?_
  refine jj_iinc (v := 1) C dX11_bring_29 rfl (by decide) (by decide) rfl ?_
  refine jj_goto (tgt := 2) C dX11_bring_32 (by decide) ?_
  refine jj_iload_n C dX11_bring_2 rfl ?_
  refine jj_if_ltF (tgt := 35) C dX11_bring_3 (by decide) (by decide) ?_
  refine jj_aload_n C dX11_bring_6 rfl ?_
  refine jj_get C jk_12 12 (by decide) jw_216 0 rfl rfl dX11_bring_7 ?_
  refine jj_aload_n C dX11_bring_10 rfl ?_
  refine jj_dup C dX11_bring_11 rfl ?_
  refine jj_get C jk_12 13 (by decide) jw_235 0 rfl rfl dX11_bring_12 ?_
  refine jj_dup_x1 C dX11_bring_15 rfl rfl ?_
  refine jj_iconst (v := 1) C dX11_bring_16 (by decide) ?_
  refine jj_iadd (v := 19) C dX11_bring_17 (by decide) ?_
  refine jj_put C jk_12 13 (by decide) jw_235 rfl 0 rfl rfl rfl rfl rfl dX11_bring_18 ?_
  refine jj_iload_n C dX11_bring_21 rfl ?_
  refine jj_bipush (v := 8) C dX11_bring_22 (by decide) ?_
  refine jj_iload_n C dX11_bring_24 rfl ?_
  refine jj_imul (v := 8) C dX11_bring_25 (by decide) ?_
  refine jj_ishr C dX11_bring_26 rfl ?_
  refine jj_i2b C dX11_bring_27 rfl ?_
  obtain ⟨g_3, eg_3⟩ : ∃ g : Nat → Int32, upd g_2 (18 : Int32).toNatClampNeg (vp_nar .byte ((a0 >>> (8 &&& 31)).toInt8.toInt32)) = g := ⟨_, rfl⟩
  refine jj_bast C 1 rfl (vp_in_iff.mpr (by decide)) eg_3 rfl dX11_bring_28 ?_
  refine jj_iinc (v := 0) C dX11_bring_29 rfl (by decide) (by decide) rfl ?_
  refine jj_goto (tgt := 2) C dX11_bring_32 (by decide) ?_
  refine jj_iload_n C dX11_bring_2 rfl ?_
  refine jj_if_ltF (tgt := 35) C dX11_bring_3 (by decide) (by decide) ?_
  refine jj_aload_n C dX11_bring_6 rfl ?_
  refine jj_get C jk_12 12 (by decide) jw_216 0 rfl rfl dX11_bring_7 ?_
  refine jj_aload_n C dX11_bring_10 rfl ?_
  refine jj_dup C dX11_bring_11 rfl ?_
  refine jj_get C jk_12 13 (by decide) jw_235 0 rfl rfl dX11_bring_12 ?_
  refine jj_dup_x1 C dX11_bring_15 rfl rfl ?_
  refine jj_iconst (v := 1) C dX11_bring_16 (by decide) ?_
  refine jj_iadd (v := 20) C dX11_bring_17 (by decide) ?_
  refine jj_put C jk_12 13 (by decide) jw_235 rfl 0 rfl rfl rfl rfl rfl dX11_bring_18 ?_
  refine jj_iload_n C dX11_bring_21 rfl ?_
  refine jj_bipush (v := 8) C dX11_bring_22 (by decide) ?_
  refine jj_iload_n C dX11_bring_24 rfl ?_
  refine jj_imul (v := 0) C dX11_bring_25 (by decide) ?_
  refine jj_ishr C dX11_bring_26 rfl ?_
  refine jj_i2b C dX11_bring_27 rfl ?_
  obtain ⟨g_4, eg_4⟩ : ∃ g : Nat → Int32, upd g_3 (19 : Int32).toNatClampNeg (vp_nar .byte ((a0 >>> (0 &&& 31)).toInt8.toInt32)) = g := ⟨_, rfl⟩
  refine jj_bast C 1 rfl (vp_in_iff.mpr (by decide)) eg_4 rfl dX11_bring_28 ?_
  refine jj_iinc (v := (-1)) C dX11_bring_29 rfl (by decide) (by decide) rfl ?_
  refine jj_goto (tgt := 2) C dX11_bring_32 (by decide) ?_
  refine jj_iload_n C dX11_bring_2 rfl ?_
  refine jj_if_ltT (tgt := 35) C dX11_bring_3 (by decide) (by decide) ?_
  exact jj_vret C ⟨g_4, rfl, rfl⟩ dX11_bring_35 (jj_le rfl) (jj_le rfl)


set_option maxHeartbeats 4000000 in
set_option maxRecDepth 100000 in
theorem ct_X11_appendText_1 {l : Launch} (hl : l.stackTraces = false) (D : va_G) (cA : Nat → ClassId) (ak : (Nat → Nat) × (Nat → Nat)) (h0 h1 h2 h3 h4 h5 h6 h7 h8 h9 h10 h11 h12 : Nat) (a0 : Int32) (a1 : Int32) (a2 : Int32) (a3 : Int32) (a4 : Int32) : jj_M l D cA ak yX11_appendText (.code yX11_appendText cX11_appendText 6 (some .int)) 1 22 0 0 [(h0, .inr (12, [.ref h2, .ref h3, .ref h4, .ref h5, .ref h6, .ref h7, .int 0, .int 0, .long 0, .long 0, .ref h8, .ref h9, .ref h1, .int 0, .int 0, .int 0, .int 0, .int 0, .int (-1), .int 0, .int 0, .ref h10, .ref h11, .ref h12, .int 0])), (h1, .inl (cA 0, 400, .inl (fun _ => 0)))] [.ref h0, .int a0, .int a1, .int a2, .int a3, .int a4] (fun (w : va_W) (r : Option Value) => (∃ (f_15 : Nat → Int32), w = [(h0, .inr (12, [.ref h2, .ref h3, .ref h4, .ref h5, .ref h6, .ref h7, .int 0, .int 0, .long 0, .long 0, .ref h8, .ref h9, .ref h1, .int 20, .int 0, .int 0, .int 0, .int 0, .int (-1), .int 0, .int 0, .ref h10, .ref h11, .ref h12, .int 0])), (h1, .inl (cA 0, 400, .inl f_15))] ∧ r = some (.int 20))) jj_noX := by
  refine jj_start hl (by decide) jw_242 (jj_le rfl) ?_
  intro p e s m args below meth c A hargs hA C hex hmn
  refine jj_aload_n C dX11_appendText_0 rfl ?_
  refine jj_get C jk_12 13 (by decide) jw_235 0 rfl rfl dX11_appendText_1 ?_
  refine jj_bipush (v := 20) C dX11_appendText_4 (by decide) ?_
  refine jj_iadd (v := 20) C dX11_appendText_6 (by decide) ?_
  refine jj_sipush (v := 400) C dX11_appendText_7 (by decide) ?_
  refine jj_icmp_leT (tgt := 19) C dX11_appendText_10 (by decide) (by decide) ?_
  refine jj_aload_n C dX11_appendText_19 rfl ?_
  refine jj_iconst (v := 0) C dX11_appendText_20 (by decide) ?_
  refine jj_put C jk_12 7 (by decide) jw_236 rfl 0 rfl rfl rfl rfl rfl dX11_appendText_21 ?_
  refine jj_aload_n C dX11_appendText_24 rfl ?_
  refine jj_iload_n C dX11_appendText_25 rfl ?_
  refine jq_callV (rest := []) C (ct_X11_bring_1 hl D cA ak h0 h1 h2 h3 h4 h5 h6 h7 h8 h9 h10 h11 h12 a0) [0, 1] [] rfl rfl (by decide) (by decide) (by decide) 0 rfl rfl rfl jw_238 jw_239 jw_240 jw_224 jw_237 jn_X11_bring rfl (jj_le rfl) (jj_le rfl) (jj_le rfl) (jj_le rfl) (jj_le rfl) dX11_appendText_26 rfl (fun _ _ hX => hX.elim) (fun w1 r O_2 => ?_)
  obtain ⟨f_3, rfl, rfl⟩ := O_2
  refine jj_apd rfl ?_
  refine jj_aload_n C dX11_appendText_29 rfl ?_
  refine jj_iload_n C dX11_appendText_30 rfl ?_
  refine jq_callV (rest := []) C (ct_X11_bring_2 hl D cA ak h0 h1 h2 h3 h4 h5 h6 h7 h8 h9 h10 h11 h12 a1 f_3) [0, 1] [] rfl rfl (by decide) (by decide) (by decide) 0 rfl rfl rfl jw_238 jw_239 jw_240 jw_224 jw_237 jn_X11_bring rfl (jj_le rfl) (jj_le rfl) (jj_le rfl) (jj_le rfl) (jj_le rfl) dX11_appendText_31 rfl (fun _ _ hX => hX.elim) (fun w1 r O_5 => ?_)
  obtain ⟨f_6, rfl, rfl⟩ := O_5
  refine jj_apd rfl ?_
  refine jj_aload_n C dX11_appendText_34 rfl ?_
  refine jj_iload_n C dX11_appendText_35 rfl ?_
  refine jq_callV (rest := []) C (ct_X11_bring_3 hl D cA ak h0 h1 h2 h3 h4 h5 h6 h7 h8 h9 h10 h11 h12 a2 f_6) [0, 1] [] rfl rfl (by decide) (by decide) (by decide) 0 rfl rfl rfl jw_238 jw_239 jw_240 jw_224 jw_237 jn_X11_bring rfl (jj_le rfl) (jj_le rfl) (jj_le rfl) (jj_le rfl) (jj_le rfl) dX11_appendText_36 rfl (fun _ _ hX => hX.elim) (fun w1 r O_8 => ?_)
  obtain ⟨f_9, rfl, rfl⟩ := O_8
  refine jj_apd rfl ?_
  refine jj_aload_n C dX11_appendText_39 rfl ?_
  refine jj_iload C dX11_appendText_40 rfl ?_
  refine jq_callV (rest := []) C (ct_X11_bring_4 hl D cA ak h0 h1 h2 h3 h4 h5 h6 h7 h8 h9 h10 h11 h12 a3 f_9) [0, 1] [] rfl rfl (by decide) (by decide) (by decide) 0 rfl rfl rfl jw_238 jw_239 jw_240 jw_224 jw_237 jn_X11_bring rfl (jj_le rfl) (jj_le rfl) (jj_le rfl) (jj_le rfl) (jj_le rfl) dX11_appendText_42 rfl (fun _ _ hX => hX.elim) (fun w1 r O_11 => ?_)
  obtain ⟨f_12, rfl, rfl⟩ := O_11
  refine jj_apd rfl ?_
  refine jj_aload_n C dX11_appendText_45 rfl ?_
  refine jj_iload C dX11_appendText_46 rfl ?_
  refine jq_callV (rest := []) C (ct_X11_bring_5 hl D cA ak h0 h1 h2 h3 h4 h5 h6 h7 h8 h9 h10 h11 h12 a4 f_12) [0, 1] [] rfl rfl (by decide) (by decide) (by decide) 0 rfl rfl rfl jw_238 jw_239 jw_240 jw_224 jw_237 jn_X11_bring rfl (jj_le rfl) (jj_le rfl) (jj_le rfl) (jj_le rfl) (jj_le rfl) dX11_appendText_48 rfl (fun _ _ hX => hX.elim) (fun w1 r O_14 => ?_)
  obtain ⟨f_15, rfl, rfl⟩ := O_14
  refine jj_apd rfl ?_
  refine jj_aload_n C dX11_appendText_51 rfl ?_
  refine jj_get C jk_12 13 (by decide) jw_235 0 rfl rfl dX11_appendText_52 ?_
  exact jj_iret C ⟨f_15, rfl, rfl⟩ dX11_appendText_55 (jj_le rfl) (jj_le rfl)


set_option maxHeartbeats 4000000 in
set_option maxRecDepth 100000 in
theorem ct_X10_truncateText_1 {l : Launch} (hl : l.stackTraces = false) (D : va_G) (cA : Nat → ClassId) (ak : (Nat → Nat) × (Nat → Nat)) (h0 h1 h2 h3 h4 h5 h6 h7 : Nat) (a0 : Int32) : jj_M l D cA ak yX10_truncateText (.code yX10_truncateText cX10_truncateText 2 (some .int)) 6 82 1 6 [(h0, .inr (11, [.ref h1, .int 0, .int (-1), .ref h2, .ref h3, .ref h4, .ref h5, .int 0, .int 0, .ref h6])), (h1, .inr (10, [.ref h7, .int 0, .int 0, .int 0, .int 0, .int 0, .int (-1)]))] [.ref h0, .int a0] (fun (w : va_W) (r : Option Value) => (¬ a0 < 0 ∧ a0 ≤ 0 ∧ r = some (.int a0))) (fun (E : String) (w : va_W) => (E = "java/lang/IllegalArgumentException" ∧ a0 < 0) ∨ (E = "java/lang/IllegalArgumentException" ∧ ¬ a0 < 0 ∧ ¬ a0 ≤ 0)) := by
  refine jj_start hl (by decide) jw_245 (jj_le rfl) ?_
  intro p e s m args below meth c A hargs hA C hex hmn
  refine jj_iload_n C dX10_truncateText_0 rfl ?_
  refine jj_if_lt (tgt := 15) C dX10_truncateText_1 (by decide) (fun c_1 => ?_) (fun c_1 => ?_)
  · exact jj_throw (k := 37) (text := "no such length") C jt_RX10_75 jw_244 (by decide +kernel) dX10_truncateText_15 dX10_truncateText_18 dX10_truncateText_19 dX10_truncateText_21 dX10_truncateText_24 hex (jj_le rfl) (jj_le rfl) (jj_le rfl) (jj_le rfl) (Or.inl ⟨rfl, c_1⟩) (jj_le rfl) (jj_le rfl)
  · refine jj_iload_n C dX10_truncateText_4 rfl ?_
    refine jj_aload_n C dX10_truncateText_5 rfl ?_
    refine jj_get C jk_11 0 (by decide) jw_26 0 rfl rfl dX10_truncateText_6 ?_
    refine jj_get C jk_10 1 (by decide) jw_228 1 rfl rfl dX10_truncateText_9 ?_
    refine jj_icmp_le (tgt := 25) C dX10_truncateText_12 (by decide) (fun c_2 => ?_) (fun c_2 => ?_)
    · refine jj_aload_n C dX10_truncateText_25 rfl ?_
      refine jj_get C jk_11 0 (by decide) jw_26 0 rfl rfl dX10_truncateText_26 ?_
      refine jj_iload_n C dX10_truncateText_29 rfl ?_
      refine jj_put C jk_10 1 (by decide) jw_228 rfl 1 rfl rfl rfl rfl rfl dX10_truncateText_30 ?_
      refine jj_iload_n C dX10_truncateText_33 rfl ?_
      exact jj_iret C ⟨c_1, c_2, rfl⟩ dX10_truncateText_34 (jj_le rfl) (jj_le rfl)
    · exact jj_throw (k := 37) (text := "no such length") C jt_RX10_75 jw_244 (by decide +kernel) dX10_truncateText_15 dX10_truncateText_18 dX10_truncateText_19 dX10_truncateText_21 dX10_truncateText_24 hex (jj_le rfl) (jj_le rfl) (jj_le rfl) (jj_le rfl) (Or.inr ⟨rfl, c_1, c_2⟩) (jj_le rfl) (jj_le rfl)


set_option maxHeartbeats 4000000 in
set_option maxRecDepth 100000 in
theorem ct_X11_in_1 {l : Launch} (hl : l.stackTraces = false) (D : va_G) (cA : Nat → ClassId) (ak : (Nat → Nat) × (Nat → Nat)) (b0 : Int64) : jj_M l D cA ak yX11_in (.code yX11_in cX11_in 6 (some .boolean)) 0 0 0 0 [] [.long b0, .long 0, .long 0] (fun (w : va_W) (r : Option Value) => (b0 < 0 ∧ w = [] ∧ r = some (.int 0)) ∨ (¬ b0 < 0 ∧ 0 < b0 ∧ w = [] ∧ r = some (.int 0)) ∨ (¬ b0 < 0 ∧ ¬ 0 < b0 ∧ w = [] ∧ r = some (.int 1))) jj_noX := by
  refine jj_start hl (by decide) jw_246 (jj_le rfl) ?_
  intro p e s m args below meth c A hargs hA C hex hmn
  refine jj_lload_n C dX11_in_0 rfl ?_
  refine jj_lload_n C dX11_in_1 rfl ?_
  refine jj_lcmp_lt (tgt := 17) C dX11_in_2 dX11_in_3 (by decide) (fun c_1 => ?_) (fun c_1 => ?_)
  · refine jj_iconst (v := 0) C dX11_in_17 (by decide) ?_
    exact jj_zret C rfl (Or.inl ⟨c_1, rfl, rfl⟩) dX11_in_18 (jj_le rfl) (jj_le rfl)
  · refine jj_lload_n C dX11_in_6 rfl ?_
    refine jj_lload C dX11_in_7 rfl ?_
    refine jj_lcmp_gt (tgt := 17) C dX11_in_9 dX11_in_10 (by decide) (fun c_2 => ?_) (fun c_2 => ?_)
    · refine jj_iconst (v := 0) C dX11_in_17 (by decide) ?_
      exact jj_zret C rfl (Or.inr (Or.inl ⟨c_1, c_2, rfl, rfl⟩)) dX11_in_18 (jj_le rfl) (jj_le rfl)
    · refine jj_iconst (v := 1) C dX11_in_13 (by decide) ?_
      refine jj_goto (tgt := 18) C dX11_in_14 (by decide) ?_
      exact jj_zret C rfl (Or.inr (Or.inr ⟨c_1, c_2, rfl, rfl⟩)) dX11_in_18 (jj_le rfl) (jj_le rfl)


set_option maxHeartbeats 4000000 in
set_option maxRecDepth 100000 in
theorem ct_X11_no_1 {l : Launch} (hl : l.stackTraces = false) (D : va_G) (cA : Nat → ClassId) (ak : (Nat → Nat) × (Nat → Nat)) (h0 h1 h2 h3 h4 h5 h6 h7 h8 h9 h10 h11 h12 : Nat) : jj_M l D cA ak yX11_no (.code yX11_no cX11_no 2 (some .int)) 0 0 0 0 [(h0, .inr (12, [.ref h1, .ref h2, .ref h3, .ref h4, .ref h5, .ref h6, .int 0, .int 0, .long 0, .long 0, .ref h7, .ref h8, .ref h9, .int 0, .int 0, .int 0, .int 0, .int 0, .int (-1), .int 0, .int 0, .ref h10, .ref h11, .ref h12, .int 0]))] [.ref h0, .int 1] (fun (w : va_W) (r : Option Value) => (w = [(h0, .inr (12, [.ref h1, .ref h2, .ref h3, .ref h4, .ref h5, .ref h6, .int 0, .int 1, .long 0, .long 0, .ref h7, .ref h8, .ref h9, .int 0, .int 0, .int 0, .int 0, .int 0, .int (-1), .int 0, .int 0, .ref h10, .ref h11, .ref h12, .int 0]))] ∧ r = some (.int 0))) jj_noX := by
  refine jj_start hl (by decide) jw_250 (jj_le rfl) ?_
  intro p e s m args below meth c A hargs hA C hex hmn
  refine jj_aload_n C dX11_no_0 rfl ?_
  refine jj_iload_n C dX11_no_1 rfl ?_
  refine jj_put C jk_12 7 (by decide) jw_236 rfl 0 rfl rfl rfl rfl rfl dX11_no_2 ?_
  refine jj_iconst (v := 0) C dX11_no_5 (by decide) ?_
  exact jj_iret C ⟨rfl, rfl⟩ dX11_no_6 (jj_le rfl) (jj_le rfl)


set_option maxHeartbeats 4000000 in
set_option maxRecDepth 100000 in
theorem ct_X11_truncateText_1 {l : Launch} (hl : l.stackTraces = false) (D : va_G) (cA : Nat → ClassId) (ak : (Nat → Nat) × (Nat → Nat)) (h0 h1 h2 h3 h4 h5 h6 h7 h8 h9 h10 h11 h12 : Nat) (a0 : Int32) : jj_M l D cA ak yX11_truncateText (.code yX11_truncateText cX11_truncateText 2 (some .int)) 1 25 0 0 [(h0, .inr (12, [.ref h1, .ref h2, .ref h3, .ref h4, .ref h5, .ref h6, .int 0, .int 0, .long 0, .long 0, .ref h7, .ref h8, .ref h9, .int 0, .int 0, .int 0, .int 0, .int 0, .int (-1), .int 0, .int 0, .ref h10, .ref h11, .ref h12, .int 0]))] [.ref h0, .int a0] (fun (w : va_W) (r : Option Value) => (a0.toInt64 < 0 ∧ w = [(h0, .inr (12, [.ref h1, .ref h2, .ref h3, .ref h4, .ref h5, .ref h6, .int 0, .int 1, .long 0, .long 0, .ref h7, .ref h8, .ref h9, .int 0, .int 0, .int 0, .int 0, .int 0, .int (-1), .int 0, .int 0, .ref h10, .ref h11, .ref h12, .int 0]))] ∧ r = some (.int 0)) ∨ (¬ a0.toInt64 < 0 ∧ 0 < a0.toInt64 ∧ w = [(h0, .inr (12, [.ref h1, .ref h2, .ref h3, .ref h4, .ref h5, .ref h6, .int 0, .int 1, .long 0, .long 0, .ref h7, .ref h8, .ref h9, .int 0, .int 0, .int 0, .int 0, .int 0, .int (-1), .int 0, .int 0, .ref h10, .ref h11, .ref h12, .int 0]))] ∧ r = some (.int 0)) ∨ (¬ a0.toInt64 < 0 ∧ ¬ 0 < a0.toInt64 ∧ w = [(h0, .inr (12, [.ref h1, .ref h2, .ref h3, .ref h4, .ref h5, .ref h6, .int 0, .int 0, .long 0, .long 0, .ref h7, .ref h8, .ref h9, .int a0, .int 0, .int 0, .int 0, .int 0, .int (-1), .int 0, .int 0, .ref h10, .ref h11, .ref h12, .int 0]))] ∧ r = some (.int a0))) jj_noX := by
  refine jj_start hl (by decide) jw_255 (jj_le rfl) ?_
  intro p e s m args below meth c A hargs hA C hex hmn
  refine jj_iload_n C dX11_truncateText_0 rfl ?_
  refine jj_i2l C dX11_truncateText_1 rfl ?_
  refine jj_lconst (v := 0) C dX11_truncateText_2 (by decide) ?_
  refine jj_aload_n C dX11_truncateText_3 rfl ?_
  refine jj_get C jk_12 13 (by decide) jw_235 0 rfl rfl dX11_truncateText_4 ?_
  refine jj_i2l (v := 0) C dX11_truncateText_7 (by decide) ?_
  refine jq_callS (rest := []) C (ct_X11_in_1 hl D cA ak a0.toInt64) [] [0] rfl rfl (by decide) (by decide) (by decide) jw_247 jw_248 jw_224 jw_246 jn_X11_in rfl (jj_le rfl) (jj_le rfl) (jj_le rfl) (jj_le rfl) (jj_le rfl) dX11_truncateText_8 rfl (fun _ _ hX => hX.elim) (fun w1 r O_2 => ?_)
  rcases O_2 with ⟨c_3, rfl, rfl⟩ | ⟨c_4, c_5, rfl, rfl⟩ | ⟨c_6, c_7, rfl, rfl⟩
  · refine jj_apd rfl ?_
    refine jj_if_neF (tgt := 20) C dX11_truncateText_11 (by decide) (by decide) ?_
    refine jj_aload_n C dX11_truncateText_14 rfl ?_
    refine jj_iconst (v := 1) C dX11_truncateText_15 (by decide) ?_
    refine jq_callV (rest := []) C (ct_X11_no_1 hl D cA ak h0 h1 h2 h3 h4 h5 h6 h7 h8 h9 h10 h11 h12) [0] [] rfl rfl (by decide) (by decide) (by decide) 0 rfl rfl rfl jw_251 jw_252 jw_253 jw_224 jw_250 jn_X11_no rfl (jj_le rfl) (jj_le rfl) (jj_le rfl) (jj_le rfl) (jj_le rfl) dX11_truncateText_16 rfl (fun _ _ hX => hX.elim) (fun w1 r O_9 => ?_)
    obtain ⟨rfl, rfl⟩ := O_9
    refine jj_apd rfl ?_
    exact jj_iret C (Or.inl ⟨c_3, rfl, rfl⟩) dX11_truncateText_19 (jj_le rfl) (jj_le rfl)
  · refine jj_apd rfl ?_
    refine jj_if_neF (tgt := 20) C dX11_truncateText_11 (by decide) (by decide) ?_
    refine jj_aload_n C dX11_truncateText_14 rfl ?_
    refine jj_iconst (v := 1) C dX11_truncateText_15 (by decide) ?_
    refine jq_callV (rest := []) C (ct_X11_no_1 hl D cA ak h0 h1 h2 h3 h4 h5 h6 h7 h8 h9 h10 h11 h12) [0] [] rfl rfl (by decide) (by decide) (by decide) 0 rfl rfl rfl jw_251 jw_252 jw_253 jw_224 jw_250 jn_X11_no rfl (jj_le rfl) (jj_le rfl) (jj_le rfl) (jj_le rfl) (jj_le rfl) dX11_truncateText_16 rfl (fun _ _ hX => hX.elim) (fun w1 r O_11 => ?_)
    obtain ⟨rfl, rfl⟩ := O_11
    refine jj_apd rfl ?_
    exact jj_iret C (Or.inr (Or.inl ⟨c_4, c_5, rfl, rfl⟩)) dX11_truncateText_19 (jj_le rfl) (jj_le rfl)
  · refine jj_apd rfl ?_
    refine jj_if_neT (tgt := 20) C dX11_truncateText_11 (by decide) (by decide) ?_
    refine jj_aload_n C dX11_truncateText_20 rfl ?_
    refine jj_iconst (v := 0) C dX11_truncateText_21 (by decide) ?_
    refine jj_put C jk_12 7 (by decide) jw_236 rfl 0 rfl rfl rfl rfl rfl dX11_truncateText_22 ?_
    refine jj_aload_n C dX11_truncateText_25 rfl ?_
    refine jj_iload_n C dX11_truncateText_26 rfl ?_
    refine jj_put C jk_12 13 (by decide) jw_235 rfl 0 rfl rfl rfl rfl rfl dX11_truncateText_27 ?_
    refine jj_iload_n C dX11_truncateText_30 rfl ?_
    exact jj_iret C (Or.inr (Or.inr ⟨c_6, c_7, rfl, rfl⟩)) dX11_truncateText_31 (jj_le rfl) (jj_le rfl)


set_option maxHeartbeats 4000000 in
set_option maxRecDepth 100000 in
theorem ct_X0_hasInvestor_1 {l : Launch} (hl : l.stackTraces = false) (D : va_G) (cA : Nat → ClassId) (ak : (Nat → Nat) × (Nat → Nat)) (h0 h1 h2 h3 h4 : Nat) (a0 : Int32) : jj_M l D cA ak yX0_hasInvestor (.code yX0_hasInvestor cX0_hasInvestor 2 (some .boolean)) 0 0 0 0 [(h0, .inr (2, [.int 1, .int 0, .int 0, .int 0, .int 100, .int 0, .int 0, .int 0, .int 0, .int 0, .ref h1, .ref h2, .ref h3, .ref h4]))] [.ref h0, .int a0] (fun (w : va_W) (r : Option Value) => (a0 < 0 ∧ w = [(h0, .inr (2, [.int 1, .int 0, .int 0, .int 0, .int 100, .int 0, .int 0, .int 0, .int 0, .int 0, .ref h1, .ref h2, .ref h3, .ref h4]))] ∧ r = some (.int 0)) ∨ (¬ a0 < 0 ∧ 1 ≤ a0 ∧ w = [(h0, .inr (2, [.int 1, .int 0, .int 0, .int 0, .int 100, .int 0, .int 0, .int 0, .int 0, .int 0, .ref h1, .ref h2, .ref h3, .ref h4]))] ∧ r = some (.int 0)) ∨ (¬ a0 < 0 ∧ ¬ 1 ≤ a0 ∧ w = [(h0, .inr (2, [.int 1, .int 0, .int 0, .int 0, .int 100, .int 0, .int 0, .int 0, .int 0, .int 0, .ref h1, .ref h2, .ref h3, .ref h4]))] ∧ r = some (.int 1))) jj_noX := by
  refine jj_start hl (by decide) jw_256 (jj_le rfl) ?_
  intro p e s m args below meth c A hargs hA C hex hmn
  refine jj_iload_n C dX0_hasInvestor_0 rfl ?_
  refine jj_if_lt (tgt := 16) C dX0_hasInvestor_1 (by decide) (fun c_1 => ?_) (fun c_1 => ?_)
  · refine jj_iconst (v := 0) C dX0_hasInvestor_16 (by decide) ?_
    exact jj_zret C rfl (Or.inl ⟨c_1, rfl, rfl⟩) dX0_hasInvestor_17 (jj_le rfl) (jj_le rfl)
  · refine jj_iload_n C dX0_hasInvestor_4 rfl ?_
    refine jj_aload_n C dX0_hasInvestor_5 rfl ?_
    refine jj_get C jk_2 0 (by decide) jw_59 0 rfl rfl dX0_hasInvestor_6 ?_
    refine jj_icmp_ge (tgt := 16) C dX0_hasInvestor_9 (by decide) (fun c_2 => ?_) (fun c_2 => ?_)
    · refine jj_iconst (v := 0) C dX0_hasInvestor_16 (by decide) ?_
      exact jj_zret C rfl (Or.inr (Or.inl ⟨c_1, c_2, rfl, rfl⟩)) dX0_hasInvestor_17 (jj_le rfl) (jj_le rfl)
    · refine jj_iconst (v := 1) C dX0_hasInvestor_12 (by decide) ?_
      refine jj_goto (tgt := 17) C dX0_hasInvestor_13 (by decide) ?_
      exact jj_zret C rfl (Or.inr (Or.inr ⟨c_1, c_2, rfl, rfl⟩)) dX0_hasInvestor_17 (jj_le rfl) (jj_le rfl)


set_option maxHeartbeats 4000000 in
set_option maxRecDepth 100000 in
theorem ct_X0_subscriptionFault_1 {l : Launch} (hl : l.stackTraces = false) (D : va_G) (cA : Nat → ClassId) (ak : (Nat → Nat) × (Nat → Nat)) (h0 h1 h2 h3 h4 : Nat) (a0 : Int32) (a1 : Int32) : jj_M l D cA ak yX0_subscriptionFault (.code yX0_subscriptionFault cX0_subscriptionFault 3 (some .int)) 1 21 0 0 [(h0, .inr (2, [.int 1, .int 0, .int 0, .int 0, .int 100, .int 0, .int 0, .int 0, .int 0, .int 0, .ref h1, .ref h2, .ref h3, .ref h4]))] [.ref h0, .int a0, .int a1] (fun (w : va_W) (r : Option Value) => (a0 < 0 ∧ w = [(h0, .inr (2, [.int 1, .int 0, .int 0, .int 0, .int 100, .int 0, .int 0, .int 0, .int 0, .int 0, .ref h1, .ref h2, .ref h3, .ref h4]))] ∧ r = some (.int 1)) ∨ (¬ a0 < 0 ∧ 1 ≤ a0 ∧ w = [(h0, .inr (2, [.int 1, .int 0, .int 0, .int 0, .int 100, .int 0, .int 0, .int 0, .int 0, .int 0, .ref h1, .ref h2, .ref h3, .ref h4]))] ∧ r = some (.int 1)) ∨ (¬ a0 < 0 ∧ ¬ 1 ≤ a0 ∧ a1 < 1 ∧ w = [(h0, .inr (2, [.int 1, .int 0, .int 0, .int 0, .int 100, .int 0, .int 0, .int 0, .int 0, .int 0, .ref h1, .ref h2, .ref h3, .ref h4]))] ∧ r = some (.int 2)) ∨ (¬ a0 < 0 ∧ ¬ 1 ≤ a0 ∧ ¬ a1 < 1 ∧ a1 ≤ 9999999 ∧ w = [(h0, .inr (2, [.int 1, .int 0, .int 0, .int 0, .int 100, .int 0, .int 0, .int 0, .int 0, .int 0, .ref h1, .ref h2, .ref h3, .ref h4]))] ∧ r = some (.int 0)) ∨ (¬ a0 < 0 ∧ ¬ 1 ≤ a0 ∧ ¬ a1 < 1 ∧ ¬ a1 ≤ 9999999 ∧ w = [(h0, .inr (2, [.int 1, .int 0, .int 0, .int 0, .int 100, .int 0, .int 0, .int 0, .int 0, .int 0, .ref h1, .ref h2, .ref h3, .ref h4]))] ∧ r = some (.int 2))) jj_noX := by
  refine jj_start hl (by decide) jw_262 (jj_le rfl) ?_
  intro p e s m args below meth c A hargs hA C hex hmn
  refine jj_aload_n C dX0_subscriptionFault_0 rfl ?_
  refine jj_iload_n C dX0_subscriptionFault_1 rfl ?_
  refine jq_callV (rest := []) C (ct_X0_hasInvestor_1 hl D cA ak h0 h1 h2 h3 h4 a0) [0] [] rfl rfl (by decide) (by decide) (by decide) 0 rfl rfl rfl jw_257 jw_258 jw_259 jw_57 jw_256 jn_X0_hasInvestor rfl (jj_le rfl) (jj_le rfl) (jj_le rfl) (jj_le rfl) (jj_le rfl) dX0_subscriptionFault_2 rfl (fun _ _ hX => hX.elim) (fun w1 r O_2 => ?_)
  rcases O_2 with ⟨c_3, rfl, rfl⟩ | ⟨c_4, c_5, rfl, rfl⟩ | ⟨c_6, c_7, rfl, rfl⟩
  · refine jj_apd rfl ?_
    refine jj_if_neF (tgt := 10) C dX0_subscriptionFault_5 (by decide) (by decide) ?_
    refine jj_iconst (v := 1) C dX0_subscriptionFault_8 (by decide) ?_
    exact jj_iret C (Or.inl ⟨c_3, rfl, rfl⟩) dX0_subscriptionFault_9 (jj_le rfl) (jj_le rfl)
  · refine jj_apd rfl ?_
    refine jj_if_neF (tgt := 10) C dX0_subscriptionFault_5 (by decide) (by decide) ?_
    refine jj_iconst (v := 1) C dX0_subscriptionFault_8 (by decide) ?_
    exact jj_iret C (Or.inr (Or.inl ⟨c_4, c_5, rfl, rfl⟩)) dX0_subscriptionFault_9 (jj_le rfl) (jj_le rfl)
  · refine jj_apd rfl ?_
    refine jj_if_neT (tgt := 10) C dX0_subscriptionFault_5 (by decide) (by decide) ?_
    refine jj_iload_n C dX0_subscriptionFault_10 rfl ?_
    refine jj_iconst (v := 1) C dX0_subscriptionFault_11 (by decide) ?_
    refine jj_icmp_lt (tgt := 21) C dX0_subscriptionFault_12 (by decide) (fun c_8 => ?_) (fun c_8 => ?_)
    · refine jj_iconst (v := 2) C dX0_subscriptionFault_21 (by decide) ?_
      exact jj_iret C (Or.inr (Or.inr (Or.inl ⟨c_6, c_7, c_8, rfl, rfl⟩))) dX0_subscriptionFault_22 (jj_le rfl) (jj_le rfl)
    · refine jj_iload_n C dX0_subscriptionFault_15 rfl ?_
      refine jj_ldc (v := 9999999) C dX0_subscriptionFault_16 jw_261 ?_
      refine jj_icmp_le (tgt := 23) C dX0_subscriptionFault_18 (by decide) (fun c_9 => ?_) (fun c_9 => ?_)
      · refine jj_aload_n C dX0_subscriptionFault_23 rfl ?_
        refine jj_get C jk_2 9 (by decide) jw_68 0 rfl rfl dX0_subscriptionFault_24 ?_
        refine jj_bipush (v := 12) C dX0_subscriptionFault_27 (by decide) ?_
        refine jj_icmp_ltT (tgt := 36) C dX0_subscriptionFault_29 (by decide) (by decide) ?_
        refine jj_iconst (v := 0) C dX0_subscriptionFault_36 (by decide) ?_
        exact jj_iret C (Or.inr (Or.inr (Or.inr (Or.inl ⟨c_6, c_7, c_8, c_9, rfl, rfl⟩)))) dX0_subscriptionFault_37 (jj_le rfl) (jj_le rfl)
      · refine jj_iconst (v := 2) C dX0_subscriptionFault_21 (by decide) ?_
        exact jj_iret C (Or.inr (Or.inr (Or.inr (Or.inr ⟨c_6, c_7, c_8, c_9, rfl, rfl⟩)))) dX0_subscriptionFault_22 (jj_le rfl) (jj_le rfl)


set_option maxHeartbeats 4000000 in
set_option maxRecDepth 100000 in
theorem ct_X10_refuse_1 {l : Launch} (hl : l.stackTraces = false) (D : va_G) (cA : Nat → ClassId) (ak : (Nat → Nat) × (Nat → Nat)) : jj_M l D cA ak yX10_refuse (.code yX10_refuse cX10_refuse 1 none) 6 82 1 6 [] [.int 1] (fun (w : va_W) (r : Option Value) => False) (fun (E : String) (w : va_W) => (E = "java/lang/IndexOutOfBoundsException")) := by
  refine jj_start hl (by decide) jw_269 (jj_le rfl) ?_
  intro p e s m args below meth c A hargs hA C hex hmn
  refine jj_iload_n C dX10_refuse_0 rfl ?_
  refine jj_iconst (v := 1) C dX10_refuse_1 (by decide) ?_
  refine jj_icmp_neF (tgt := 15) C dX10_refuse_2 (by decide) (by decide) ?_
  exact jj_throw (k := 38) (text := "there is no such number") C jt_RX10_200 jw_268 (by decide +kernel) dX10_refuse_5 dX10_refuse_8 dX10_refuse_9 dX10_refuse_11 dX10_refuse_14 hex (jj_le rfl) (jj_le rfl) (jj_le rfl) (jj_le rfl) rfl (jj_le rfl) (jj_le rfl)


set_option maxHeartbeats 4000000 in
set_option maxRecDepth 100000 in
theorem ct_X10_refuse_2 {l : Launch} (hl : l.stackTraces = false) (D : va_G) (cA : Nat → ClassId) (ak : (Nat → Nat) × (Nat → Nat)) : jj_M l D cA ak yX10_refuse (.code yX10_refuse cX10_refuse 1 none) 6 82 1 6 [] [.int 2] (fun (w : va_W) (r : Option Value) => False) (fun (E : String) (w : va_W) => (E = "java/lang/IllegalArgumentException")) := by
  refine jj_start hl (by decide) jw_269 (jj_le rfl) ?_
  intro p e s m args below meth c A hargs hA C hex hmn
  refine jj_iload_n C dX10_refuse_0 rfl ?_
  refine jj_iconst (v := 1) C dX10_refuse_1 (by decide) ?_
  refine jj_icmp_neT (tgt := 15) C dX10_refuse_2 (by decide) (by decide) ?_
  refine jj_iload_n C dX10_refuse_15 rfl ?_
  refine jj_iconst (v := 2) C dX10_refuse_16 (by decide) ?_
  refine jj_icmp_neF (tgt := 30) C dX10_refuse_17 (by decide) (by decide) ?_
  exact jj_throw (k := 39) (text := "an argument is out of its range") C jt_RX10_75 jw_244 (by decide +kernel) dX10_refuse_20 dX10_refuse_23 dX10_refuse_24 dX10_refuse_26 dX10_refuse_29 hex (jj_le rfl) (jj_le rfl) (jj_le rfl) (jj_le rfl) rfl (jj_le rfl) (jj_le rfl)


set_option maxHeartbeats 4000000 in
set_option maxRecDepth 100000 in
theorem ct_X10_refuse_3 {l : Launch} (hl : l.stackTraces = false) (D : va_G) (cA : Nat → ClassId) (ak : (Nat → Nat) × (Nat → Nat)) : jj_M l D cA ak yX10_refuse (.code yX10_refuse cX10_refuse 1 none) 0 0 0 0 [] [.int 0] (fun (w : va_W) (r : Option Value) => (w = [] ∧ r = none)) jj_noX := by
  refine jj_start hl (by decide) jw_269 (jj_le rfl) ?_
  intro p e s m args below meth c A hargs hA C hex hmn
  refine jj_iload_n C dX10_refuse_0 rfl ?_
  refine jj_iconst (v := 1) C dX10_refuse_1 (by decide) ?_
  refine jj_icmp_neT (tgt := 15) C dX10_refuse_2 (by decide) (by decide) ?_
  refine jj_iload_n C dX10_refuse_15 rfl ?_
  refine jj_iconst (v := 2) C dX10_refuse_16 (by decide) ?_
  refine jj_icmp_neT (tgt := 30) C dX10_refuse_17 (by decide) (by decide) ?_
  refine jj_iload_n C dX10_refuse_30 rfl ?_
  refine jj_iconst (v := 3) C dX10_refuse_31 (by decide) ?_
  refine jj_icmp_neT (tgt := 45) C dX10_refuse_32 (by decide) (by decide) ?_
  exact jj_vret C ⟨rfl, rfl⟩ dX10_refuse_45 (jj_le rfl) (jj_le rfl)


set_option maxHeartbeats 4000000 in
set_option maxRecDepth 100000 in
theorem ct_X0_copyFrom_1 {l : Launch} (hl : l.stackTraces = false) (D : va_G) (cA : Nat → ClassId) (ak : (Nat → Nat) × (Nat → Nat)) (h0 h1 h2 h3 h4 h5 h6 h7 h8 h9 : Nat) : jj_M l D cA ak yX0_copyFrom (.code yX0_copyFrom cX0_copyFrom 3 none) 0 0 0 0 [(h0, .inr (2, [.int 1, .int 0, .int 0, .int 0, .int 100, .int 0, .int 0, .int 0, .int 0, .int 0, .ref h2, .ref h4, .ref h5, .ref h6])), (h1, .inr (2, [.int 1, .int 0, .int 0, .int 0, .int 100, .int 0, .int 0, .int 0, .int 0, .int 0, .ref h3, .ref h7, .ref h8, .ref h9])), (h2, .inl (cA 2, 6, .inr (.inl (fun _ => 0)))), (h3, .inl (cA 2, 6, .inr (.inl (fun _ => 0))))] [.ref h0, .ref h1] (fun (w : va_W) (r : Option Value) => (w = [(h0, .inr (2, [.int 1, .int 0, .int 0, .int 0, .int 100, .int 0, .int 0, .int 0, .int 0, .int 0, .ref h2, .ref h4, .ref h5, .ref h6])), (h1, .inr (2, [.int 1, .int 0, .int 0, .int 0, .int 100, .int 0, .int 0, .int 0, .int 0, .int 0, .ref h3, .ref h7, .ref h8, .ref h9])), (h2, .inl (cA 2, 6, .inr (.inl (vp_updL (vp_updL (vp_updL (vp_updL (vp_updL (vp_updL (fun _ => 0) 0 0) 1 0) 2 0) 3 0) 4 0) 5 0)))), (h3, .inl (cA 2, 6, .inr (.inl (fun _ => 0))))] ∧ r = none)) jj_noX := by
  refine jj_start hl (by decide) jw_274 (jj_le rfl) ?_
  intro p e s m args below meth c A hargs hA C hex hmn
  refine jj_aload_n C dX0_copyFrom_0 rfl ?_
  refine jj_aload_n C dX0_copyFrom_1 rfl ?_
  refine jj_get C jk_2 0 (by decide) jw_59 1 rfl rfl dX0_copyFrom_2 ?_
  refine jj_put C jk_2 0 (by decide) jw_59 rfl 0 rfl rfl rfl rfl rfl dX0_copyFrom_5 ?_
  refine jj_aload_n C dX0_copyFrom_8 rfl ?_
  refine jj_aload_n C dX0_copyFrom_9 rfl ?_
  refine jj_get C jk_2 1 (by decide) jw_60 1 rfl rfl dX0_copyFrom_10 ?_
  refine jj_put C jk_2 1 (by decide) jw_60 rfl 0 rfl rfl rfl rfl rfl dX0_copyFrom_13 ?_
  refine jj_aload_n C dX0_copyFrom_16 rfl ?_
  refine jj_aload_n C dX0_copyFrom_17 rfl ?_
  refine jj_get C jk_2 2 (by decide) jw_61 1 rfl rfl dX0_copyFrom_18 ?_
  refine jj_put C jk_2 2 (by decide) jw_61 rfl 0 rfl rfl rfl rfl rfl dX0_copyFrom_21 ?_
  refine jj_aload_n C dX0_copyFrom_24 rfl ?_
  refine jj_aload_n C dX0_copyFrom_25 rfl ?_
  refine jj_get C jk_2 3 (by decide) jw_62 1 rfl rfl dX0_copyFrom_26 ?_
  refine jj_put C jk_2 3 (by decide) jw_62 rfl 0 rfl rfl rfl rfl rfl dX0_copyFrom_29 ?_
  refine jj_aload_n C dX0_copyFrom_32 rfl ?_
  refine jj_aload_n C dX0_copyFrom_33 rfl ?_
  refine jj_get C jk_2 4 (by decide) jw_63 1 rfl rfl dX0_copyFrom_34 ?_
  refine jj_put C jk_2 4 (by decide) jw_63 rfl 0 rfl rfl rfl rfl rfl dX0_copyFrom_37 ?_
  refine jj_aload_n C dX0_copyFrom_40 rfl ?_
  refine jj_aload_n C dX0_copyFrom_41 rfl ?_
  refine jj_get C jk_2 5 (by decide) jw_64 1 rfl rfl dX0_copyFrom_42 ?_
  refine jj_put C jk_2 5 (by decide) jw_64 rfl 0 rfl rfl rfl rfl rfl dX0_copyFrom_45 ?_
  refine jj_aload_n C dX0_copyFrom_48 rfl ?_
  refine jj_aload_n C dX0_copyFrom_49 rfl ?_
  refine jj_get C jk_2 6 (by decide) jw_65 1 rfl rfl dX0_copyFrom_50 ?_
  refine jj_put C jk_2 6 (by decide) jw_65 rfl 0 rfl rfl rfl rfl rfl dX0_copyFrom_53 ?_
  refine jj_aload_n C dX0_copyFrom_56 rfl ?_
  refine jj_aload_n C dX0_copyFrom_57 rfl ?_
  refine jj_get C jk_2 7 (by decide) jw_66 1 rfl rfl dX0_copyFrom_58 ?_
  refine jj_put C jk_2 7 (by decide) jw_66 rfl 0 rfl rfl rfl rfl rfl dX0_copyFrom_61 ?_
  refine jj_aload_n C dX0_copyFrom_64 rfl ?_
  refine jj_aload_n C dX0_copyFrom_65 rfl ?_
  refine jj_get C jk_2 8 (by decide) jw_67 1 rfl rfl dX0_copyFrom_66 ?_
  refine jj_put C jk_2 8 (by decide) jw_67 rfl 0 rfl rfl rfl rfl rfl dX0_copyFrom_69 ?_
  refine jj_aload_n C dX0_copyFrom_72 rfl ?_
  refine jj_aload_n C dX0_copyFrom_73 rfl ?_
  refine jj_get C jk_2 9 (by decide) jw_68 1 rfl rfl dX0_copyFrom_74 ?_
  refine jj_put C jk_2 9 (by decide) jw_68 rfl 0 rfl rfl rfl rfl rfl dX0_copyFrom_77 ?_
  refine jj_iconst (v := 0) C dX0_copyFrom_80 (by decide) ?_
  refine jj_istore_n C dX0_copyFrom_81 (by decide) rfl ?_
  refine jj_iload_n C dX0_copyFrom_82 rfl ?_
  refine jj_bipush (v := 6) C dX0_copyFrom_83 (by decide) ?_
  refine jj_icmp_geF (tgt := 106) C dX0_copyFrom_85 (by decide) (by decide) ?_
  refine jj_aload_n C dX0_copyFrom_88 rfl ?_
  refine jj_get C jk_2 10 (by decide) jw_70 0 rfl rfl dX0_copyFrom_89 ?_
  refine jj_iload_n C dX0_copyFrom_92 rfl ?_
  refine jj_aload_n C dX0_copyFrom_93 rfl ?_
  refine jj_get C jk_2 10 (by decide) jw_70 1 rfl rfl dX0_copyFrom_94 ?_
  refine jj_iload_n C dX0_copyFrom_97 rfl ?_
  refine jj_lald (v := 0) C 3 rfl (vp_in_iff.mpr (by decide)) rfl dX0_copyFrom_98 ?_
  refine jj_last C 2 rfl (vp_in_iff.mpr (by decide)) (g := (vp_updL (fun _ => 0) 0 0)) rfl rfl dX0_copyFrom_99 ?_
  refine jj_iinc (v := 1) C dX0_copyFrom_100 rfl (by decide) (by decide) rfl ?_
  refine jj_goto (tgt := 82) C dX0_copyFrom_103 (by decide) ?_
  refine jj_iload_n C dX0_copyFrom_82 rfl ?_
  refine jj_bipush (v := 6) C dX0_copyFrom_83 (by decide) ?_
  refine jj_icmp_geF (tgt := 106) C dX0_copyFrom_85 (by decide) (by decide) ?_
  refine jj_aload_n C dX0_copyFrom_88 rfl ?_
  refine jj_get C jk_2 10 (by decide) jw_70 0 rfl rfl dX0_copyFrom_89 ?_
  refine jj_iload_n C dX0_copyFrom_92 rfl ?_
  refine jj_aload_n C dX0_copyFrom_93 rfl ?_
  refine jj_get C jk_2 10 (by decide) jw_70 1 rfl rfl dX0_copyFrom_94 ?_
  refine jj_iload_n C dX0_copyFrom_97 rfl ?_
  refine jj_lald (v := 0) C 3 rfl (vp_in_iff.mpr (by decide)) rfl dX0_copyFrom_98 ?_
  refine jj_last C 2 rfl (vp_in_iff.mpr (by decide)) (g := (vp_updL (vp_updL (fun _ => 0) 0 0) 1 0)) rfl rfl dX0_copyFrom_99 ?_
  refine jj_iinc (v := 2) C dX0_copyFrom_100 rfl (by decide) (by decide) rfl ?_
  refine jj_goto (tgt := 82) C dX0_copyFrom_103 (by decide) ?_
  refine jj_iload_n C dX0_copyFrom_82 rfl ?_
  refine jj_bipush (v := 6) C dX0_copyFrom_83 (by decide) ?_
  refine jj_icmp_geF (tgt := 106) C dX0_copyFrom_85 (by decide) (by decide) ?_
  refine jj_aload_n C dX0_copyFrom_88 rfl ?_
  refine jj_get C jk_2 10 (by decide) jw_70 0 rfl rfl dX0_copyFrom_89 ?_
  refine jj_iload_n C dX0_copyFrom_92 rfl ?_
  refine jj_aload_n C dX0_copyFrom_93 rfl ?_
  refine jj_get C jk_2 10 (by decide) jw_70 1 rfl rfl dX0_copyFrom_94 ?_
  refine jj_iload_n C dX0_copyFrom_97 rfl ?_
  refine jj_lald (v := 0) C 3 rfl (vp_in_iff.mpr (by decide)) rfl dX0_copyFrom_98 ?_
  refine jj_last C 2 rfl (vp_in_iff.mpr (by decide)) (g := (vp_updL (vp_updL (vp_updL (fun _ => 0) 0 0) 1 0) 2 0)) rfl rfl dX0_copyFrom_99 ?_
  refine jj_iinc (v := 3) C dX0_copyFrom_100 rfl (by decide) (by decide) rfl ?_
  refine jj_goto (tgt := 82) C dX0_copyFrom_103 (by decide) ?_
  refine jj_iload_n C dX0_copyFrom_82 rfl ?_
  refine jj_bipush (v := 6) C dX0_copyFrom_83 (by decide) ?_
  refine jj_icmp_geF (tgt := 106) C dX0_copyFrom_85 (by decide) (by decide) ?_
  refine jj_aload_n C dX0_copyFrom_88 rfl ?_
  refine jj_get C jk_2 10 (by decide) jw_70 0 rfl rfl dX0_copyFrom_89 ?_
  refine jj_iload_n C dX0_copyFrom_92 rfl ?_
  refine jj_aload_n C dX0_copyFrom_93 rfl ?_
  refine jj_get C jk_2 10 (by decide) jw_70 1 rfl rfl dX0_copyFrom_94 ?_
  refine jj_iload_n C dX0_copyFrom_97 rfl ?_
  refine jj_lald (v := 0) C 3 rfl (vp_in_iff.mpr (by decide)) rfl dX0_copyFrom_98 ?_
  refine jj_last C 2 rfl (vp_in_iff.mpr (by decide)) (g := (vp_updL (vp_updL (vp_updL (vp_updL (fun _ => 0) 0 0) 1 0) 2 0) 3 0)) rfl rfl dX0_copyFrom_99 ?_
  refine jj_iinc (v := 4) C dX0_copyFrom_100 rfl (by decide) (by decide) rfl ?_
  refine jj_goto (tgt := 82) C dX0_copyFrom_103 (by decide) ?_
  refine jj_iload_n C dX0_copyFrom_82 rfl ?_
  refine jj_bipush (v := 6) C dX0_copyFrom_83 (by decide) ?_
  refine jj_icmp_geF (tgt := 106) C dX0_copyFrom_85 (by decide) (by decide) ?_
  refine jj_aload_n C dX0_copyFrom_88 rfl ?_
  refine jj_get C jk_2 10 (by decide) jw_70 0 rfl rfl dX0_copyFrom_89 ?_
  refine jj_iload_n C dX0_copyFrom_92 rfl ?_
  refine jj_aload_n C dX0_copyFrom_93 rfl ?_
  refine jj_get C jk_2 10 (by decide) jw_70 1 rfl rfl dX0_copyFrom_94 ?_
  refine jj_iload_n C dX0_copyFrom_97 rfl ?_
  refine jj_lald (v := 0) C 3 rfl (vp_in_iff.mpr (by decide)) rfl dX0_copyFrom_98 ?_
  refine jj_last C 2 rfl (vp_in_iff.mpr (by decide)) (g := (vp_updL (vp_updL (vp_updL (vp_updL (vp_updL (fun _ => 0) 0 0) 1 0) 2 0) 3 0) 4 0)) rfl rfl dX0_copyFrom_99 ?_
  refine jj_iinc (v := 5) C dX0_copyFrom_100 rfl (by decide) (by decide) rfl ?_
  refine jj_goto (tgt := 82) C dX0_copyFrom_103 (by decide) ?_
  refine jj_iload_n C dX0_copyFrom_82 rfl ?_
  refine jj_bipush (v := 6) C dX0_copyFrom_83 (by decide) ?_
  refine jj_icmp_geF (tgt := 106) C dX0_copyFrom_85 (by decide) (by decide) ?_
  refine jj_aload_n C dX0_copyFrom_88 rfl ?_
  refine jj_get C jk_2 10 (by decide) jw_70 0 rfl rfl dX0_copyFrom_89 ?_
  refine jj_iload_n C dX0_copyFrom_92 rfl ?_
  refine jj_aload_n C dX0_copyFrom_93 rfl ?_
  refine jj_get C jk_2 10 (by decide) jw_70 1 rfl rfl dX0_copyFrom_94 ?_
  refine jj_iload_n C dX0_copyFrom_97 rfl ?_
  refine jj_lald (v := 0) C 3 rfl (vp_in_iff.mpr (by decide)) rfl dX0_copyFrom_98 ?_
  refine jj_last C 2 rfl (vp_in_iff.mpr (by decide)) (g := (vp_updL (vp_updL (vp_updL (vp_updL (vp_updL (vp_updL (fun _ => 0) 0 0) 1 0) 2 0) 3 0) 4 0) 5 0)) rfl rfl dX0_copyFrom_99 ?_
  refine jj_iinc (v := 6) C dX0_copyFrom_100 rfl (by decide) (by decide) rfl ?_
  refine jj_goto (tgt := 82) C dX0_copyFrom_103 (by decide) ?_
  refine jj_iload_n C dX0_copyFrom_82 rfl ?_
  refine jj_bipush (v := 6) C dX0_copyFrom_83 (by decide) ?_
  refine jj_icmp_geT (tgt := 106) C dX0_copyFrom_85 (by decide) (by decide) ?_
  refine jj_iconst (v := 0) C dX0_copyFrom_106 (by decide) ?_
  refine jj_istore_n C dX0_copyFrom_107 (by decide) rfl ?_
  refine jj_iload_n C dX0_copyFrom_108 rfl ?_
  refine jj_aload_n C dX0_copyFrom_109 rfl ?_
  refine jj_get C jk_2 7 (by decide) jw_66 0 rfl rfl dX0_copyFrom_110 ?_
  refine jj_icmp_geT (tgt := 137) C dX0_copyFrom_113 (by decide) (by decide) ?_
  refine jj_iconst (v := 0) C dX0_copyFrom_137 (by decide) ?_
  refine jj_istore_n C dX0_copyFrom_138 (by decide) rfl ?_
  refine jj_iload_n C dX0_copyFrom_139 rfl ?_
  refine jj_aload_n C dX0_copyFrom_140 rfl ?_
  refine jj_get C jk_2 8 (by decide) jw_67 0 rfl rfl dX0_copyFrom_141 ?_
  refine jj_icmp_geT (tgt := 168) C dX0_copyFrom_144 (by decide) (by decide) ?_
  refine jj_iconst (v := 0) C dX0_copyFrom_168 (by decide) ?_
  refine jj_istore_n C dX0_copyFrom_169 (by decide) rfl ?_
  refine jj_iload_n C dX0_copyFrom_170 rfl ?_
  refine jj_aload_n C dX0_copyFrom_171 rfl ?_
  refine jj_get C jk_2 9 (by decide) jw_68 0 rfl rfl dX0_copyFrom_172 ?_
  refine jj_icmp_geT (tgt := 199) C dX0_copyFrom_175 (by decide) (by decide) ?_
  exact jj_vret C ⟨rfl, rfl⟩ dX0_copyFrom_199 (jj_le rfl) (jj_le rfl)


