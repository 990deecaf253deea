set_option maxHeartbeats 4000000 in
set_option maxRecDepth 100000 in
theorem ct_X11_parseFund_1 {l : Launch} (hl : l.stackTraces = false) (D : va_G) (cA : Nat → ClassId) (ak : (Nat → Nat) × (Nat → Nat)) (h0 h1 h2 h3 h4 h5 h6 h7 h8 h9 h10 h11 h12 : Nat) : jj_M l D cA ak yX11_parseFund (.code yX11_parseFund cX11_parseFund 3 (some .int)) 5 104 0 0 [(h0, .inr (12, [.ref h2, .ref h3, .ref h4, .ref h5, .ref h1, .ref h6, .int 0, .int 0, .long 0, .long 0, .ref h7, .ref h8, .ref h9, .int 0, .int 0, .int 0, .int 0, .int 0, .int (-1), .int 0, .int 0, .ref h10, .ref h11, .ref h12, .int 0])), (h1, .inl (cA 2, 334, .inr (.inl (fun _ => 0))))] [.ref h0] (fun (w : va_W) (r : Option Value) => (w = [(h1, .inl (cA 2, 334, .inr (.inl (vp_updL (vp_updL (vp_updL (vp_updL (vp_updL (vp_updL (fun _ => 0) 0 1) 4 100) 2 0) 3 0) 4 0) 0 0)))), (h0, .inr (12, [.ref h2, .ref h3, .ref h4, .ref h5, .ref h1, .ref h6, .int 0, .int 0, .long 0, .long 0, .ref h7, .ref h8, .ref h9, .int 0, .int 0, .int 0, .int 0, .int 1, .int 0, .int 0, .int 0, .ref h10, .ref h11, .ref h12, .int 0]))] ∧ r = some (.int (-1)))) jj_noX := by
  refine jj_start hl (by decide) jw_756 (jj_le rfl) ?_
  intro p e s m args below meth c A hargs hA C hex hmn
  refine jj_aload_n C dX11_parseFund_0 rfl ?_
  refine jj_iconst (v := 0) C dX11_parseFund_1 (by decide) ?_
  refine jj_put C jk_12 7 (by decide) jw_236 rfl 0 rfl rfl rfl rfl rfl dX11_parseFund_2 ?_
  refine jj_aload_n C dX11_parseFund_5 rfl ?_
  refine jj_iconst (v := (-1)) C dX11_parseFund_6 (by decide) ?_
  refine jj_put C jk_12 18 (by decide) jw_217 rfl 0 rfl rfl rfl rfl rfl dX11_parseFund_7 ?_
  refine jj_aload_n C dX11_parseFund_10 rfl ?_
  refine jj_get C jk_12 4 (by decide) jw_211 0 rfl rfl dX11_parseFund_11 ?_
  refine jq_callS (rest := []) C (ct_X11_lay_1 hl D cA ak h1) [1] [0] rfl rfl (by decide) (by decide) (by decide) jw_223 jw_225 jw_224 jw_222 jn_X11_lay rfl (jj_le rfl) (jj_le rfl) (jj_le rfl) (jj_le rfl) (jj_le rfl) dX11_parseFund_14 rfl (fun _ _ hX => hX.elim) (fun w1 r O_2 => ?_)
  obtain ⟨rfl, rfl⟩ := O_2
  refine jj_apd rfl ?_
  refine jj_aload_n C dX11_parseFund_17 rfl ?_
  refine jq_callV (rest := []) C (ct_X11_begin_1 hl D cA ak h0 h2 h3 h4 h5 h1 h6 h7 h8 h9 h10 h11 h12) [0] [1] rfl rfl (by decide) (by decide) (by decide) 0 rfl rfl rfl jw_706 jw_707 jw_708 jw_224 jw_705 jn_X11_begin rfl (jj_le rfl) (jj_le rfl) (jj_le rfl) (jj_le rfl) (jj_le rfl) dX11_parseFund_18 rfl (fun _ _ hX => hX.elim) (fun w1 r O_4 => ?_)
  obtain ⟨rfl, rfl⟩ := O_4
  refine jj_apd rfl ?_
  refine jj_aload_n C dX11_parseFund_21 rfl ?_
  refine jq_callV (rest := []) C (ct_X11_readHead_1 hl D cA ak h0 h1 h2 h3 h4 h5 h6 h7 h8 h9 h10 h11 h12) [1, 0] [] rfl rfl (by decide) (by decide) (by decide) 0 rfl rfl rfl jw_752 jw_753 jw_754 jw_224 jw_751 jn_X11_readHead rfl (jj_le rfl) (jj_le rfl) (jj_le rfl) (jj_le rfl) (jj_le rfl) dX11_parseFund_22 rfl (fun _ _ hX => hX.elim) (fun w1 r O_6 => ?_)
  obtain ⟨rfl, rfl⟩ := O_6
  refine jj_apd rfl ?_
  refine jj_aload_n C dX11_parseFund_25 rfl ?_
  refine jj_get C jk_12 17 (by decide) jw_689 1 rfl rfl dX11_parseFund_26 ?_
  refine jj_if_neT (tgt := 50) C dX11_parseFund_29 (by decide) (by decide) ?_
  refine jj_aload_n C dX11_parseFund_50 rfl ?_
  refine jj_get C jk_12 17 (by decide) jw_689 1 rfl rfl dX11_parseFund_51 ?_
  refine jj_if_leF (tgt := 59) C dX11_parseFund_54 (by decide) (by decide) ?_
  refine jj_iconst (v := (-1)) C dX11_parseFund_57 (by decide) ?_
  exact jj_iret C ⟨rfl, rfl⟩ dX11_parseFund_58 (jj_le rfl) (jj_le rfl)


set_option maxHeartbeats 4000000 in
set_option maxRecDepth 100000 in
theorem ct_X10_errorCode_1 {l : Launch} (hl : l.stackTraces = false) (D : va_G) (cA : Nat → ClassId) (ak : (Nat → Nat) × (Nat → Nat)) (h0 h1 h2 h3 h4 h5 h6 : Nat) : jj_M l D cA ak yX10_errorCode (.code yX10_errorCode cX10_errorCode 1 (some .int)) 0 0 0 0 [(h0, .inr (11, [.ref h1, .int 0, .int (-1), .ref h2, .ref h3, .ref h4, .ref h5, .int 0, .int 0, .ref h6]))] [.ref h0] (fun (w : va_W) (r : Option Value) => (r = some (.int 0))) jj_noX := by
  refine jj_start hl (by decide) jw_757 (jj_le rfl) ?_
  intro p e s m args below meth c A hargs hA C hex hmn
  refine jj_aload_n C dX10_errorCode_0 rfl ?_
  refine jj_get C jk_11 1 (by decide) jw_38 0 rfl rfl dX10_errorCode_1 ?_
  exact jj_iret C rfl dX10_errorCode_4 (jj_le rfl) (jj_le rfl)


set_option maxHeartbeats 4000000 in
set_option maxRecDepth 100000 in
theorem ct_X11_errorCode_1 {l : Launch} (hl : l.stackTraces = false) (D : va_G) (cA : Nat → ClassId) (ak : (Nat → Nat) × (Nat → Nat)) (h0 h1 h2 h3 h4 h5 h6 h7 h8 h9 h10 h11 h12 : Nat) : jj_M l D cA ak yX11_errorCode (.code yX11_errorCode cX11_errorCode 1 (some .int)) 0 0 0 0 [(h0, .inr (12, [.ref h1, .ref h2, .ref h3, .ref h4, .ref h5, .ref h6, .int 0, .int 0, .long 0, .long 0, .ref h7, .ref h8, .ref h9, .int 0, .int 0, .int 0, .int 0, .int 0, .int (-1), .int 0, .int 0, .ref h10, .ref h11, .ref h12, .int 0]))] [.ref h0] (fun (w : va_W) (r : Option Value) => (w = [(h0, .inr (12, [.ref h1, .ref h2, .ref h3, .ref h4, .ref h5, .ref h6, .int 0, .int 0, .long 0, .long 0, .ref h7, .ref h8, .ref h9, .int 0, .int 0, .int 0, .int 0, .int 0, .int (-1), .int 0, .int 0, .ref h10, .ref h11, .ref h12, .int 0]))] ∧ r = some (.int 0))) jj_noX := by
  refine jj_start hl (by decide) jw_758 (jj_le rfl) ?_
  intro p e s m args below meth c A hargs hA C hex hmn
  refine jj_aload_n C dX11_errorCode_0 rfl ?_
  refine jj_iconst (v := 0) C dX11_errorCode_1 (by decide) ?_
  refine jj_put C jk_12 7 (by decide) jw_236 rfl 0 rfl rfl rfl rfl rfl dX11_errorCode_2 ?_
  refine jj_aload_n C dX11_errorCode_5 rfl ?_
  refine jj_get C jk_12 17 (by decide) jw_689 0 rfl rfl dX11_errorCode_6 ?_
  exact jj_iret C ⟨rfl, rfl⟩ dX11_errorCode_9 (jj_le rfl) (jj_le rfl)


set_option maxHeartbeats 4000000 in
set_option maxRecDepth 100000 in
theorem ct_X10_errorPosition_1 {l : Launch} (hl : l.stackTraces = false) (D : va_G) (cA : Nat → ClassId) (ak : (Nat → Nat) × (Nat → Nat)) (h0 h1 h2 h3 h4 h5 h6 : Nat) : jj_M l D cA ak yX10_errorPosition (.code yX10_errorPosition cX10_errorPosition 1 (some .int)) 0 0 0 0 [(h0, .inr (11, [.ref h1, .int 0, .int (-1), .ref h2, .ref h3, .ref h4, .ref h5, .int 0, .int 0, .ref h6]))] [.ref h0] (fun (w : va_W) (r : Option Value) => (r = some (.int (-1)))) jj_noX := by
  refine jj_start hl (by decide) jw_759 (jj_le rfl) ?_
  intro p e s m args below meth c A hargs hA C hex hmn
  refine jj_aload_n C dX10_errorPosition_0 rfl ?_
  refine jj_get C jk_11 2 (by decide) jw_39 0 rfl rfl dX10_errorPosition_1 ?_
  exact jj_iret C rfl dX10_errorPosition_4 (jj_le rfl) (jj_le rfl)


set_option maxHeartbeats 4000000 in
set_option maxRecDepth 100000 in
theorem ct_X11_errorPosition_1 {l : Launch} (hl : l.stackTraces = false) (D : va_G) (cA : Nat → ClassId) (ak : (Nat → Nat) × (Nat → Nat)) (h0 h1 h2 h3 h4 h5 h6 h7 h8 h9 h10 h11 h12 : Nat) : jj_M l D cA ak yX11_errorPosition (.code yX11_errorPosition cX11_errorPosition 1 (some .int)) 0 0 0 0 [(h0, .inr (12, [.ref h1, .ref h2, .ref h3, .ref h4, .ref h5, .ref h6, .int 0, .int 0, .long 0, .long 0, .ref h7, .ref h8, .ref h9, .int 0, .int 0, .int 0, .int 0, .int 0, .int (-1), .int 0, .int 0, .ref h10, .ref h11, .ref h12, .int 0]))] [.ref h0] (fun (w : va_W) (r : Option Value) => (w = [(h0, .inr (12, [.ref h1, .ref h2, .ref h3, .ref h4, .ref h5, .ref h6, .int 0, .int 0, .long 0, .long 0, .ref h7, .ref h8, .ref h9, .int 0, .int 0, .int 0, .int 0, .int 0, .int (-1), .int 0, .int 0, .ref h10, .ref h11, .ref h12, .int 0]))] ∧ r = some (.int (-1)))) jj_noX := by
  refine jj_start hl (by decide) jw_760 (jj_le rfl) ?_
  intro p e s m args below meth c A hargs hA C hex hmn
  refine jj_aload_n C dX11_errorPosition_0 rfl ?_
  refine jj_iconst (v := 0) C dX11_errorPosition_1 (by decide) ?_
  refine jj_put C jk_12 7 (by decide) jw_236 rfl 0 rfl rfl rfl rfl rfl dX11_errorPosition_2 ?_
  refine jj_aload_n C dX11_errorPosition_5 rfl ?_
  refine jj_get C jk_12 18 (by decide) jw_217 0 rfl rfl dX11_errorPosition_6 ?_
  exact jj_iret C ⟨rfl, rfl⟩ dX11_errorPosition_9 (jj_le rfl) (jj_le rfl)


set_option maxHeartbeats 4000000 in
set_option maxRecDepth 100000 in
theorem ct_X1_baseOfRedemptions_1 {l : Launch} (hl : l.stackTraces = false) (D : va_G) (cA : Nat → ClassId) (ak : (Nat → Nat) × (Nat → Nat)) (h0 h1 h2 h3 h4 h5 h6 : Nat) : jj_M l D cA ak yX1_baseOfRedemptions (.code yX1_baseOfRedemptions cX1_baseOfRedemptions 6 (some .long)) 0 0 0 0 [(h0, .inr (3, [.ref h2, .long 0, .long 0, .long 0, .long 0, .long 0])), (h1, .inr (2, [.int 1, .int 0, .int 0, .int 0, .int 100, .int 0, .int 0, .int 0, .int 0, .int 0, .ref h3, .ref h4, .ref h5, .ref h6]))] [.ref h0, .ref h1] (fun (w : va_W) (r : Option Value) => (w = [(h0, .inr (3, [.ref h2, .long 0, .long 0, .long 0, .long 0, .long 0])), (h1, .inr (2, [.int 1, .int 0, .int 0, .int 0, .int 100, .int 0, .int 0, .int 0, .int 0, .int 0, .ref h3, .ref h4, .ref h5, .ref h6]))] ∧ r = some (.long 0))) jj_noX := by
  refine jj_start hl (by decide) jw_762 (jj_le rfl) ?_
  intro p e s m args below meth c A hargs hA C hex hmn
  refine jj_lconst (v := 0) C dX1_baseOfRedemptions_0 (by decide) ?_
  refine jj_lstore_n C dX1_baseOfRedemptions_1 (by decide) rfl ?_
  refine jj_iconst (v := 0) C dX1_baseOfRedemptions_2 (by decide) ?_
  refine jj_istore C dX1_baseOfRedemptions_3 (by decide) rfl ?_
  refine jj_iload C dX1_baseOfRedemptions_5 rfl ?_
  refine jj_aload_n C dX1_baseOfRedemptions_7 rfl ?_
  refine jj_get C jk_2 9 (by decide) jw_761 1 rfl rfl dX1_baseOfRedemptions_8 ?_
  refine jj_icmp_geT (tgt := 62) C dX1_baseOfRedemptions_11 (by decide) (by decide) ?_
  refine jj_lload_n C dX1_baseOfRedemptions_62 rfl ?_
  exact jj_lret C ⟨rfl, rfl⟩ dX1_baseOfRedemptions_63 (jj_le rfl) (jj_le rfl)


set_option maxHeartbeats 4000000 in
set_option maxRecDepth 100000 in
theorem ct_X0_limitOfGate_1 {l : Launch} (hl : l.stackTraces = false) (D : va_G) (cA : Nat → ClassId) (ak : (Nat → Nat) × (Nat → Nat)) (h0 h1 h2 h3 h4 : Nat) : jj_M l D cA ak yX0_limitOfGate (.code yX0_limitOfGate cX0_limitOfGate 1 (some .long)) 1 23 0 0 [(h0, .inr (2, [.int 1, .int 0, .int 0, .int 0, .int 100, .int 0, .int 0, .int 0, .int 0, .int 0, .ref h1, .ref h2, .ref h3, .ref h4]))] [.ref h0] (fun (w : va_W) (r : Option Value) => (w = [(h0, .inr (2, [.int 1, .int 0, .int 0, .int 0, .int 100, .int 0, .int 0, .int 0, .int 0, .int 0, .ref h1, .ref h2, .ref h3, .ref h4]))] ∧ r = some (.long 0))) jj_noX := by
  refine jj_start hl (by decide) jw_769 (jj_le rfl) ?_
  intro p e s m args below meth c A hargs hA C hex hmn
  refine jj_aload_n C dX0_limitOfGate_0 rfl ?_
  refine jq_callV (rest := []) C (ct_X0_netOfAll_1 hl D cA ak h0 h1 h2 h3 h4) [0] [] rfl rfl (by decide) (by decide) (by decide) 0 rfl rfl rfl jw_767 jw_611 jw_612 jw_57 jw_609 jn_X0_netOfAll rfl (jj_le rfl) (jj_le rfl) (jj_le rfl) (jj_le rfl) (jj_le rfl) dX0_limitOfGate_1 rfl (fun _ _ hX => hX.elim) (fun w1 r O_2 => ?_)
  obtain ⟨rfl, rfl⟩ := O_2
  refine jj_apd rfl ?_
  refine jj_aload_n C dX0_limitOfGate_4 rfl ?_
  refine jj_get C jk_2 4 (by decide) jw_63 0 rfl rfl dX0_limitOfGate_5 ?_
  refine jj_i2l (v := 100) C dX0_limitOfGate_8 (by decide) ?_
  refine jj_lmul (v := 0) C dX0_limitOfGate_9 (by decide) ?_
  refine jj_ldc2 (v := 100) C dX0_limitOfGate_10 jw_768 ?_
  refine jj_ldiv (v := 0) C dX0_limitOfGate_13 (by decide) (by decide) ?_
  exact jj_lret C ⟨rfl, rfl⟩ dX0_limitOfGate_14 (jj_le rfl) (jj_le rfl)


set_option maxHeartbeats 4000000 in
set_option maxRecDepth 100000 in
theorem ct_X1_redeemWaiting_1 {l : Launch} (hl : l.stackTraces = false) (D : va_G) (cA : Nat → ClassId) (ak : (Nat → Nat) × (Nat → Nat)) (h0 h1 h2 h3 h4 h5 h6 : Nat) : jj_M l D cA ak yX1_redeemWaiting (.code yX1_redeemWaiting cX1_redeemWaiting 10 none) 2 43 0 0 [(h0, .inr (3, [.ref h2, .long 0, .long 0, .long 0, .long 0, .long 0])), (h1, .inr (2, [.int 1, .int 0, .int 0, .int 0, .int 100, .int 0, .int 0, .int 0, .int 0, .int 0, .ref h3, .ref h4, .ref h5, .ref h6]))] [.ref h0, .ref h1, .long 0] (fun (w : va_W) (r : Option Value) => (w = [(h0, .inr (3, [.ref h2, .long 0, .long 0, .long 0, .long 0, .long 0])), (h1, .inr (2, [.int 1, .int 0, .int 0, .int 0, .int 100, .int 0, .int 0, .int 0, .int 0, .int 0, .ref h3, .ref h4, .ref h5, .ref h6]))] ∧ r = none)) jj_noX := by
  refine jj_start hl (by decide) jw_774 (jj_le rfl) ?_
  intro p e s m args below meth c A hargs hA C hex hmn
  refine jj_aload_n C dX1_redeemWaiting_0 rfl ?_
  refine jq_callV (rest := []) C (ct_X0_limitOfGate_1 hl D cA ak h1 h3 h4 h5 h6) [1] [0] rfl rfl (by decide) (by decide) (by decide) 0 rfl rfl rfl jw_770 jw_771 jw_772 jw_57 jw_769 jn_X0_limitOfGate rfl (jj_le rfl) (jj_le rfl) (jj_le rfl) (jj_le rfl) (jj_le rfl) dX1_redeemWaiting_1 rfl (fun _ _ hX => hX.elim) (fun w1 r O_2 => ?_)
  obtain ⟨rfl, rfl⟩ := O_2
  refine jj_apd rfl ?_
  refine jj_lstore C dX1_redeemWaiting_4 (by decide) rfl ?_
  refine jj_iconst (v := 0) C dX1_redeemWaiting_6 (by decide) ?_
  refine jj_istore C dX1_redeemWaiting_7 (by decide) rfl ?_
  refine jj_iload C dX1_redeemWaiting_9 rfl ?_
  refine jj_aload_n C dX1_redeemWaiting_11 rfl ?_
  refine jj_get C jk_2 9 (by decide) jw_761 1 rfl rfl dX1_redeemWaiting_12 ?_
  refine jj_icmp_geT (tgt := 99) C dX1_redeemWaiting_15 (by decide) (by decide) ?_
  refine jj_iconst (v := 0) C dX1_redeemWaiting_99 (by decide) ?_
  refine jj_istore C dX1_redeemWaiting_100 (by decide) rfl ?_
  refine jj_iload C dX1_redeemWaiting_102 rfl ?_
  refine jj_aload_n C dX1_redeemWaiting_104 rfl ?_
  refine jj_get C jk_2 9 (by decide) jw_761 1 rfl rfl dX1_redeemWaiting_105 ?_
  refine jj_icmp_geT (tgt := 154) C dX1_redeemWaiting_108 (by decide) (by decide) ?_
  exact jj_vret C ⟨rfl, rfl⟩ dX1_redeemWaiting_154 (jj_le rfl) (jj_le rfl)


set_option maxHeartbeats 4000000 in
set_option maxRecDepth 100000 in
theorem ct_X1_subscribeWaiting_1 {l : Launch} (hl : l.stackTraces = false) (D : va_G) (cA : Nat → ClassId) (ak : (Nat → Nat) × (Nat → Nat)) (h0 h1 h2 h3 h4 h5 h6 : Nat) : jj_M l D cA ak yX1_subscribeWaiting (.code yX1_subscribeWaiting cX1_subscribeWaiting 5 none) 0 0 0 0 [(h0, .inr (3, [.ref h2, .long 0, .long 0, .long 0, .long 0, .long 0])), (h1, .inr (2, [.int 1, .int 0, .int 0, .int 0, .int 100, .int 0, .int 0, .int 0, .int 0, .int 0, .ref h3, .ref h4, .ref h5, .ref h6]))] [.ref h0, .ref h1] (fun (w : va_W) (r : Option Value) => (w = [(h0, .inr (3, [.ref h2, .long 0, .long 0, .long 0, .long 0, .long 0])), (h1, .inr (2, [.int 1, .int 0, .int 0, .int 0, .int 100, .int 0, .int 0, .int 0, .int 0, .int 0, .ref h3, .ref h4, .ref h5, .ref h6]))] ∧ r = none)) jj_noX := by
  refine jj_start hl (by decide) jw_780 (jj_le rfl) ?_
  intro p e s m args below meth c A hargs hA C hex hmn
  refine jj_aload_n C dX1_subscribeWaiting_0 rfl ?_
  refine jj_get C jk_2 1 (by decide) jw_779 1 rfl rfl dX1_subscribeWaiting_1 ?_
  refine jj_iconst (v := 1) C dX1_subscribeWaiting_4 (by decide) ?_
  refine jj_icmp_neT (tgt := 19) C dX1_subscribeWaiting_5 (by decide) (by decide) ?_
  refine jj_iconst (v := (-1)) C dX1_subscribeWaiting_19 (by decide) ?_
  refine jj_istore_n C dX1_subscribeWaiting_20 (by decide) rfl ?_
  refine jj_iconst (v := 0) C dX1_subscribeWaiting_21 (by decide) ?_
  refine jj_istore_n C dX1_subscribeWaiting_22 (by decide) rfl ?_
  refine jj_iload_n C dX1_subscribeWaiting_23 rfl ?_
  refine jj_aload_n C dX1_subscribeWaiting_24 rfl ?_
  refine jj_get C jk_2 9 (by decide) jw_761 1 rfl rfl dX1_subscribeWaiting_25 ?_
  refine jj_icmp_geT (tgt := 86) C dX1_subscribeWaiting_28 (by decide) (by decide) ?_
  exact jj_vret C ⟨rfl, rfl⟩ dX1_subscribeWaiting_86 (jj_le rfl) (jj_le rfl)


set_option maxHeartbeats 4000000 in
set_option maxRecDepth 100000 in
theorem ct_X0_dropDoneRequests_1 {l : Launch} (hl : l.stackTraces = false) (D : va_G) (cA : Nat → ClassId) (ak : (Nat → Nat) × (Nat → Nat)) (h0 h1 h2 h3 h4 : Nat) : jj_M l D cA ak yX0_dropDoneRequests (.code yX0_dropDoneRequests cX0_dropDoneRequests 4 (some .int)) 0 0 0 0 [(h0, .inr (2, [.int 1, .int 0, .int 0, .int 0, .int 100, .int 0, .int 0, .int 0, .int 0, .int 0, .ref h1, .ref h2, .ref h3, .ref h4]))] [.ref h0] (fun (w : va_W) (r : Option Value) => (w = [(h0, .inr (2, [.int 1, .int 0, .int 0, .int 0, .int 100, .int 0, .int 0, .int 0, .int 0, .int 0, .ref h1, .ref h2, .ref h3, .ref h4]))] ∧ r = some (.int 0))) jj_noX := by
  refine jj_start hl (by decide) jw_785 (jj_le rfl) ?_
  intro p e s m args below meth c A hargs hA C hex hmn
  refine jj_iconst (v := 0) C dX0_dropDoneRequests_0 (by decide) ?_
  refine jj_istore_n C dX0_dropDoneRequests_1 (by decide) rfl ?_
  refine jj_iconst (v := 0) C dX0_dropDoneRequests_2 (by decide) ?_
  refine jj_istore_n C dX0_dropDoneRequests_3 (by decide) rfl ?_
  refine jj_iload_n C dX0_dropDoneRequests_4 rfl ?_
  refine jj_aload_n C dX0_dropDoneRequests_5 rfl ?_
  refine jj_get C jk_2 9 (by decide) jw_68 0 rfl rfl dX0_dropDoneRequests_6 ?_
  refine jj_icmp_geT (tgt := 56) C dX0_dropDoneRequests_9 (by decide) (by decide) ?_
  refine jj_aload_n C dX0_dropDoneRequests_56 rfl ?_
  refine jj_get C jk_2 9 (by decide) jw_68 0 rfl rfl dX0_dropDoneRequests_57 ?_
  refine jj_iload_n C dX0_dropDoneRequests_60 rfl ?_
  refine jj_isub (v := 0) C dX0_dropDoneRequests_61 (by decide) ?_
  refine jj_istore_n C dX0_dropDoneRequests_62 (by decide) rfl ?_
  refine jj_aload_n C dX0_dropDoneRequests_63 rfl ?_
  refine jj_iload_n C dX0_dropDoneRequests_64 rfl ?_
  refine jj_put C jk_2 9 (by decide) jw_68 rfl 0 rfl rfl rfl rfl rfl dX0_dropDoneRequests_65 ?_
  refine jj_iload_n C dX0_dropDoneRequests_68 rfl ?_
  exact jj_iret C ⟨rfl, rfl⟩ dX0_dropDoneRequests_69 (jj_le rfl) (jj_le rfl)


set_option maxHeartbeats 4000000 in
set_option maxRecDepth 100000 in
theorem ct_X1_holdDealing_1 {l : Launch} (hl : l.stackTraces = false) (D : va_G) (cA : Nat → ClassId) (ak : (Nat → Nat) × (Nat → Nat)) (h0 h1 h2 h3 h4 h5 h6 : Nat) : jj_M l D cA ak yX1_holdDealing (.code yX1_holdDealing cX1_holdDealing 2 (some .int)) 3 72 0 0 [(h0, .inr (3, [.ref h2, .long 0, .long 0, .long 0, .long 0, .long 0])), (h1, .inr (2, [.int 1, .int 0, .int 0, .int 0, .int 100, .int 0, .int 0, .int 0, .int 0, .int 0, .ref h3, .ref h4, .ref h5, .ref h6]))] [.ref h0, .ref h1] (fun (w : va_W) (r : Option Value) => (w = [(h0, .inr (3, [.ref h2, .long 0, .long 0, .long 0, .long 0, .long 0])), (h1, .inr (2, [.int 1, .int 0, .int 0, .int 0, .int 100, .int 0, .int 0, .int 0, .int 0, .int 0, .ref h3, .ref h4, .ref h5, .ref h6]))] ∧ r = some (.int 0))) jj_noX := by
  refine jj_start hl (by decide) jw_790 (jj_le rfl) ?_
  intro p e s m args below meth c A hargs hA C hex hmn
  refine jj_aload_n C dX1_holdDealing_0 rfl ?_
  refine jj_aload_n C dX1_holdDealing_1 rfl ?_
  refine jj_aload_n C dX1_holdDealing_2 rfl ?_
  refine jj_aload_n C dX1_holdDealing_3 rfl ?_
  refine jq_callV (rest := [.ref h1, .ref h0]) C (ct_X1_baseOfRedemptions_1 hl D cA ak h0 h1 h2 h3 h4 h5 h6) [0, 1] [] rfl rfl (by decide) (by decide) (by decide) 0 rfl rfl rfl jw_763 jw_764 jw_765 jw_146 jw_762 jn_X1_baseOfRedemptions rfl (jj_le rfl) (jj_le rfl) (jj_le rfl) (jj_le rfl) (jj_le rfl) dX1_holdDealing_4 rfl (fun _ _ hX => hX.elim) (fun w1 r O_2 => ?_)
  obtain ⟨rfl, rfl⟩ := O_2
  refine jj_apd rfl ?_
  refine jq_callV (rest := []) C (ct_X1_redeemWaiting_1 hl D cA ak h0 h1 h2 h3 h4 h5 h6) [0, 1] [] rfl rfl (by decide) (by decide) (by decide) 0 rfl rfl rfl jw_775 jw_776 jw_777 jw_146 jw_774 jn_X1_redeemWaiting rfl (jj_le rfl) (jj_le rfl) (jj_le rfl) (jj_le rfl) (jj_le rfl) dX1_holdDealing_7 rfl (fun _ _ hX => hX.elim) (fun w1 r O_4 => ?_)
  obtain ⟨rfl, rfl⟩ := O_4
  refine jj_apd rfl ?_
  refine jj_aload_n C dX1_holdDealing_10 rfl ?_
  refine jj_aload_n C dX1_holdDealing_11 rfl ?_
  refine jq_callV (rest := []) C (ct_X1_subscribeWaiting_1 hl D cA ak h0 h1 h2 h3 h4 h5 h6) [0, 1] [] rfl rfl (by decide) (by decide) (by decide) 0 rfl rfl rfl jw_781 jw_782 jw_783 jw_146 jw_780 jn_X1_subscribeWaiting rfl (jj_le rfl) (jj_le rfl) (jj_le rfl) (jj_le rfl) (jj_le rfl) dX1_holdDealing_12 rfl (fun _ _ hX => hX.elim) (fun w1 r O_6 => ?_)
  obtain ⟨rfl, rfl⟩ := O_6
  refine jj_apd rfl ?_
  refine jj_aload_n C dX1_holdDealing_15 rfl ?_
  refine jq_callV (rest := []) C (ct_X0_dropDoneRequests_1 hl D cA ak h1 h3 h4 h5 h6) [1] [0] rfl rfl (by decide) (by decide) (by decide) 0 rfl rfl rfl jw_786 jw_787 jw_788 jw_57 jw_785 jn_X0_dropDoneRequests rfl (jj_le rfl) (jj_le rfl) (jj_le rfl) (jj_le rfl) (jj_le rfl) dX1_holdDealing_16 rfl (fun _ _ hX => hX.elim) (fun w1 r O_8 => ?_)
  obtain ⟨rfl, rfl⟩ := O_8
  refine jj_apd rfl ?_
  exact jj_iret C ⟨rfl, rfl⟩ dX1_holdDealing_19 (jj_le rfl) (jj_le rfl)


set_option maxHeartbeats 4000000 in
set_option maxRecDepth 100000 in
theorem ct_X10_deal_1 {l : Launch} (hl : l.stackTraces = false) (D : va_G) (cA : Nat → ClassId) (ak : (Nat → Nat) × (Nat → Nat)) (h0 h1 h2 h3 h4 h5 h6 h7 h8 h9 h10 h11 : Nat) : jj_M l D cA ak yX10_deal (.code yX10_deal cX10_deal 1 (some .int)) 4 93 63 408 [(h0, .inr (11, [.ref h5, .int 0, .int (-1), .ref h1, .ref h6, .ref h2, .ref h3, .int 0, .int 0, .ref h7])), (h1, .inr (2, [.int 1, .int 0, .int 0, .int 0, .int 100, .int 0, .int 0, .int 0, .int 0, .int 0, .ref h4, .ref h8, .ref h9, .ref h10])), (h2, .inr (3, [.ref h11, .long 0, .long 0, .long 0, .long 0, .long 0])), (h3, .inl (cA 5, 10, .inr (.inr (.inr (.inr (fun _ => none)))))), (h4, .inl (cA 2, 6, .inr (.inl (fun _ => 0))))] [.ref h0] (fun (w : va_W) (r : Option Value) => (r = some (.int 0))) jj_noX := by
  refine jj_start hl (by decide) jw_795 (jj_le rfl) ?_
  intro p e s m args below meth c A hargs hA C hex hmn
  refine jj_aload_n C dX10_deal_0 rfl ?_
  refine jq_callV (rest := []) C (ct_X10_remember_1 hl D cA ak h0 h1 h3 h4 h5 h6 h2 h7 h8 h9 h10) [0, 1, 3, 4] [2] rfl rfl (by decide) (by decide) (by decide) 0 rfl rfl rfl jw_280 jw_281 jw_282 jw_271 jw_279 jn_X10_remember rfl (jj_le rfl) (jj_le rfl) (jj_le rfl) (jj_le rfl) (jj_le rfl) dX10_deal_1 rfl (fun _ _ hX => hX.elim) (fun w1 r O_2 => ?_)
  obtain ⟨q_3, q_4, q_5, q_6, q_7, q_8, f_9, c_10, rfl, rfl⟩ := O_2
  refine jj_apd rfl ?_
  refine jj_aload_n C dX10_deal_4 rfl ?_
  refine jj_get C jk_11 5 (by decide) jw_159 1 rfl rfl dX10_deal_5 ?_
  refine jj_aload_n C dX10_deal_8 rfl ?_
  refine jj_get C jk_11 3 (by decide) jw_135 1 rfl rfl dX10_deal_9 ?_
  refine jq_callV (rest := []) C (ct_X1_holdDealing_1 hl D cA ak h2 h1 h11 h4 h8 h9 h10) [0, 6] [1, 2, 3, 4, 5, 7, 8] rfl rfl (by decide) (by decide) (by decide) 0 rfl rfl rfl jw_791 jw_792 jw_793 jw_146 jw_790 jn_X1_holdDealing rfl (jj_le rfl) (jj_le rfl) (jj_le rfl) (jj_le rfl) (jj_le rfl) dX10_deal_12 rfl (fun _ _ hX => hX.elim) (fun w1 r O_12 => ?_)
  obtain ⟨rfl, rfl⟩ := O_12
  refine jj_apd rfl ?_
  exact jj_iret C rfl dX10_deal_15 (jj_le rfl) (jj_le rfl)


set_option maxHeartbeats 4000000 in
set_option maxRecDepth 100000 in
theorem ct_X11_requested_1 {l : Launch} (hl : l.stackTraces = false) (D : va_G) (cA : Nat → ClassId) (ak : (Nat → Nat) × (Nat → Nat)) (h0 h1 h2 h3 h4 h5 h6 h7 h8 h9 h10 h11 h12 : Nat) : jj_M l D cA ak yX11_requested (.code yX11_requested cX11_requested 4 (some .long)) 0 0 0 0 [(h0, .inr (12, [.ref h1, .ref h2, .ref h3, .ref h4, .ref h5, .ref h6, .int 1, .int 0, .long 0, .long 0, .ref h7, .ref h8, .ref h9, .int 0, .int 0, .int 0, .int 0, .int 0, .int (-1), .int 0, .int 0, .ref h10, .ref h11, .ref h12, .int 0])), (h1, .inl (cA 2, 334, .inr (.inl (vp_updL (vp_updL (fun _ => 0) 0 1) 4 100))))] [.ref h0] (fun (w : va_W) (r : Option Value) => (w = [(h0, .inr (12, [.ref h1, .ref h2, .ref h3, .ref h4, .ref h5, .ref h6, .int 1, .int 0, .long 0, .long 0, .ref h7, .ref h8, .ref h9, .int 0, .int 0, .int 0, .int 0, .int 0, .int (-1), .int 0, .int 0, .ref h10, .ref h11, .ref h12, .int 0])), (h1, .inl (cA 2, 334, .inr (.inl (vp_updL (vp_updL (fun _ => 0) 0 1) 4 100))))] ∧ r = some (.long 0))) jj_noX := by
  refine jj_start hl (by decide) jw_796 (jj_le rfl) ?_
  intro p e s m args below meth c A hargs hA C hex hmn
  refine jj_lconst (v := 0) C dX11_requested_0 (by decide) ?_
  refine jj_lstore_n C dX11_requested_1 (by decide) rfl ?_
  refine jj_iconst (v := 0) C dX11_requested_2 (by decide) ?_
  refine jj_istore_n C dX11_requested_3 (by decide) rfl ?_
  refine jj_iload_n C dX11_requested_4 rfl ?_
  refine jj_i2l (v := 0) C dX11_requested_5 (by decide) ?_
  refine jj_aload_n C dX11_requested_6 rfl ?_
  refine jj_get C jk_12 0 (by decide) jw_181 0 rfl rfl dX11_requested_7 ?_
  refine jj_bipush (v := 8) C dX11_requested_10 (by decide) ?_
  refine jj_lald (v := 0) C 1 rfl (vp_in_iff.mpr (by decide)) rfl dX11_requested_12 ?_
  refine jj_lcmp_geT (tgt := 43) C dX11_requested_13 dX11_requested_14 (by decide) (by decide) ?_
  refine jj_lload_n C dX11_requested_43 rfl ?_
  exact jj_lret C ⟨rfl, rfl⟩ dX11_requested_44 (jj_le rfl) (jj_le rfl)


set_option maxHeartbeats 4000000 in
set_option maxRecDepth 100000 in
theorem ct_X11_netAll_2 {l : Launch} (hl : l.stackTraces = false) (D : va_G) (cA : Nat → ClassId) (ak : (Nat → Nat) × (Nat → Nat)) (h0 h1 h2 h3 h4 h5 h6 h7 h8 h9 h10 h11 h12 : Nat) : jj_M l D cA ak yX11_netAll (.code yX11_netAll cX11_netAll 4 (some .long)) 0 0 0 0 [(h0, .inr (12, [.ref h1, .ref h2, .ref h3, .ref h4, .ref h5, .ref h6, .int 1, .int 0, .long 0, .long 0, .ref h7, .ref h8, .ref h9, .int 0, .int 0, .int 0, .int 0, .int 0, .int (-1), .int 0, .int 0, .ref h10, .ref h11, .ref h12, .int 0])), (h1, .inl (cA 2, 334, .inr (.inl (vp_updL (vp_updL (fun _ => 0) 0 1) 4 100))))] [.ref h0] (fun (w : va_W) (r : Option Value) => (w = [(h0, .inr (12, [.ref h1, .ref h2, .ref h3, .ref h4, .ref h5, .ref h6, .int 1, .int 0, .long 0, .long 0, .ref h7, .ref h8, .ref h9, .int 0, .int 0, .int 0, .int 0, .int 0, .int (-1), .int 0, .int 0, .ref h10, .ref h11, .ref h12, .int 0])), (h1, .inl (cA 2, 334, .inr (.inl (vp_updL (vp_updL (fun _ => 0) 0 1) 4 100))))] ∧ r = some (.long 0))) jj_noX := by
  refine jj_start hl (by decide) jw_615 (jj_le rfl) ?_
  intro p e s m args below meth c A hargs hA C hex hmn
  refine jj_lconst (v := 0) C dX11_netAll_0 (by decide) ?_
  refine jj_lstore_n C dX11_netAll_1 (by decide) rfl ?_
  refine jj_iconst (v := 0) C dX11_netAll_2 (by decide) ?_
  refine jj_istore_n C dX11_netAll_3 (by decide) rfl ?_
  refine jj_iload_n C dX11_netAll_4 rfl ?_
  refine jj_i2l (v := 0) C dX11_netAll_5 (by decide) ?_
  refine jj_aload_n C dX11_netAll_6 rfl ?_
  refine jj_get C jk_12 0 (by decide) jw_181 0 rfl rfl dX11_netAll_7 ?_
  refine jj_bipush (v := 6) C dX11_netAll_10 (by decide) ?_
  refine jj_lald (v := 0) C 1 rfl (vp_in_iff.mpr (by decide)) rfl dX11_netAll_12 ?_
  refine jj_lcmp_geT (tgt := 34) C dX11_netAll_13 dX11_netAll_14 (by decide) (by decide) ?_
  refine jj_lload_n C dX11_netAll_34 rfl ?_
  exact jj_lret C ⟨rfl, rfl⟩ dX11_netAll_35 (jj_le rfl) (jj_le rfl)


set_option maxHeartbeats 4000000 in
set_option maxRecDepth 100000 in
theorem ct_X11_limit_1 {l : Launch} (hl : l.stackTraces = false) (D : va_G) (cA : Nat → ClassId) (ak : (Nat → Nat) × (Nat → Nat)) (h0 h1 h2 h3 h4 h5 h6 h7 h8 h9 h10 h11 h12 : Nat) : jj_M l D cA ak yX11_limit (.code yX11_limit cX11_limit 1 (some .long)) 1 23 0 0 [(h0, .inr (12, [.ref h1, .ref h2, .ref h3, .ref h4, .ref h5, .ref h6, .int 1, .int 0, .long 0, .long 0, .ref h7, .ref h8, .ref h9, .int 0, .int 0, .int 0, .int 0, .int 0, .int (-1), .int 0, .int 0, .ref h10, .ref h11, .ref h12, .int 0])), (h1, .inl (cA 2, 334, .inr (.inl (vp_updL (vp_updL (fun _ => 0) 0 1) 4 100))))] [.ref h0] (fun (w : va_W) (r : Option Value) => (w = [(h0, .inr (12, [.ref h1, .ref h2, .ref h3, .ref h4, .ref h5, .ref h6, .int 1, .int 0, .long 0, .long 0, .ref h7, .ref h8, .ref h9, .int 0, .int 0, .int 0, .int 0, .int 0, .int (-1), .int 0, .int 0, .ref h10, .ref h11, .ref h12, .int 0])), (h1, .inl (cA 2, 334, .inr (.inl (vp_updL (vp_updL (fun _ => 0) 0 1) 4 100))))] ∧ r = some (.long 0))) jj_noX := by
  refine jj_start hl (by decide) jw_801 (jj_le rfl) ?_
  intro p e s m args below meth c A hargs hA C hex hmn
  refine jj_aload_n C dX11_limit_0 rfl ?_
  refine jq_callV (rest := []) C (ct_X11_netAll_2 hl D cA ak h0 h1 h2 h3 h4 h5 h6 h7 h8 h9 h10 h11 h12) [0, 1] [] rfl rfl (by decide) (by decide) (by decide) 0 rfl rfl rfl jw_616 jw_617 jw_618 jw_224 jw_615 jn_X11_netAll rfl (jj_le rfl) (jj_le rfl) (jj_le rfl) (jj_le rfl) (jj_le rfl) dX11_limit_1 rfl (fun _ _ hX => hX.elim) (fun w1 r O_2 => ?_)
  obtain ⟨rfl, rfl⟩ := O_2
  refine jj_apd rfl ?_
  refine jj_aload_n C dX11_limit_4 rfl ?_
  refine jj_get C jk_12 0 (by decide) jw_181 0 rfl rfl dX11_limit_5 ?_
  refine jj_iconst (v := 4) C dX11_limit_8 (by decide) ?_
  refine jj_lald (v := 100) C 1 rfl (vp_in_iff.mpr (by decide)) rfl dX11_limit_9 ?_
  refine jj_lmul (v := 0) C dX11_limit_10 (by decide) ?_
  refine jj_ldc2 (v := 100) C dX11_limit_11 jw_221 ?_
  refine jj_ldiv (v := 0) C dX11_limit_14 (by decide) (by decide) ?_
  exact jj_lret C ⟨rfl, rfl⟩ dX11_limit_15 (jj_le rfl) (jj_le rfl)


set_option maxHeartbeats 4000000 in
set_option maxRecDepth 100000 in
theorem ct_X11_redeemAll_1 {l : Launch} (hl : l.stackTraces = false) (D : va_G) (cA : Nat → ClassId) (ak : (Nat → Nat) × (Nat → Nat)) (h0 h1 h2 h3 h4 h5 h6 h7 h8 h9 h10 h11 h12 : Nat) : jj_M l D cA ak yX11_redeemAll (.code yX11_redeemAll cX11_redeemAll 11 none) 2 43 0 0 [(h0, .inr (12, [.ref h1, .ref h2, .ref h3, .ref h4, .ref h5, .ref h6, .int 1, .int 0, .long 0, .long 0, .ref h7, .ref h8, .ref h9, .int 0, .int 0, .int 0, .int 0, .int 0, .int (-1), .int 0, .int 0, .ref h10, .ref h11, .ref h12, .int 0])), (h1, .inl (cA 2, 334, .inr (.inl (vp_updL (vp_updL (fun _ => 0) 0 1) 4 100))))] [.ref h0] (fun (w : va_W) (r : Option Value) => (w = [(h0, .inr (12, [.ref h1, .ref h2, .ref h3, .ref h4, .ref h5, .ref h6, .int 1, .int 0, .long 0, .long 0, .ref h7, .ref h8, .ref h9, .int 0, .int 0, .int 0, .int 0, .int 0, .int (-1), .int 0, .int 0, .ref h10, .ref h11, .ref h12, .int 0])), (h1, .inl (cA 2, 334, .inr (.inl (vp_updL (vp_updL (fun _ => 0) 0 1) 4 100))))] ∧ r = none)) jj_noX := by
  refine jj_start hl (by decide) jw_806 (jj_le rfl) ?_
  intro p e s m args below meth c A hargs hA C hex hmn
  refine jj_aload_n C dX11_redeemAll_0 rfl ?_
  refine jq_callV (rest := []) C (ct_X11_requested_1 hl D cA ak h0 h1 h2 h3 h4 h5 h6 h7 h8 h9 h10 h11 h12) [0, 1] [] rfl rfl (by decide) (by decide) (by decide) 0 rfl rfl rfl jw_797 jw_798 jw_799 jw_224 jw_796 jn_X11_requested rfl (jj_le rfl) (jj_le rfl) (jj_le rfl) (jj_le rfl) (jj_le rfl) dX11_redeemAll_1 rfl (fun _ _ hX => hX.elim) (fun w1 r O_2 => ?_)
  obtain ⟨rfl, rfl⟩ := O_2
  refine jj_apd rfl ?_
  refine jj_lstore_n C dX11_redeemAll_4 (by decide) rfl ?_
  refine jj_aload_n C dX11_redeemAll_5 rfl ?_
  refine jq_callV (rest := []) C (ct_X11_limit_1 hl D cA ak h0 h1 h2 h3 h4 h5 h6 h7 h8 h9 h10 h11 h12) [0, 1] [] rfl rfl (by decide) (by decide) (by decide) 0 rfl rfl rfl jw_802 jw_803 jw_804 jw_224 jw_801 jn_X11_limit rfl (jj_le rfl) (jj_le rfl) (jj_le rfl) (jj_le rfl) (jj_le rfl) dX11_redeemAll_6 rfl (fun _ _ hX => hX.elim) (fun w1 r O_4 => ?_)
  obtain ⟨rfl, rfl⟩ := O_4
  refine jj_apd rfl ?_
  refine jj_lstore_n C dX11_redeemAll_9 (by decide) rfl ?_
  refine jj_iconst (v := 0) C dX11_redeemAll_10 (by decide) ?_
  refine jj_istore C dX11_redeemAll_11 (by decide) rfl ?_
  refine jj_iload C dX11_redeemAll_13 rfl ?_
  refine jj_i2l (v := 0) C dX11_redeemAll_15 (by decide) ?_
  refine jj_aload_n C dX11_redeemAll_16 rfl ?_
  refine jj_get C jk_12 0 (by decide) jw_181 0 rfl rfl dX11_redeemAll_17 ?_
  refine jj_bipush (v := 8) C dX11_redeemAll_20 (by decide) ?_
  refine jj_lald (v := 0) C 1 rfl (vp_in_iff.mpr (by decide)) rfl dX11_redeemAll_22 ?_
  refine jj_lcmp_geT (tgt := 170) C dX11_redeemAll_23 dX11_redeemAll_24 (by decide) (by decide) ?_
  exact jj_vret C ⟨rfl, rfl⟩ dX11_redeemAll_170 (jj_le rfl) (jj_le rfl)


set_option maxHeartbeats 4000000 in
set_option maxRecDepth 100000 in
theorem ct_X11_subscribeAll_1 {l : Launch} (hl : l.stackTraces = false) (D : va_G) (cA : Nat → ClassId) (ak : (Nat → Nat) × (Nat → Nat)) (h0 h1 h2 h3 h4 h5 h6 h7 h8 h9 h10 h11 h12 : Nat) : jj_M l D cA ak yX11_subscribeAll (.code yX11_subscribeAll cX11_subscribeAll 4 none) 0 0 0 0 [(h0, .inr (12, [.ref h1, .ref h2, .ref h3, .ref h4, .ref h5, .ref h6, .int 1, .int 0, .long 0, .long 0, .ref h7, .ref h8, .ref h9, .int 0, .int 0, .int 0, .int 0, .int 0, .int (-1), .int 0, .int 0, .ref h10, .ref h11, .ref h12, .int 0])), (h1, .inl (cA 2, 334, .inr (.inl (vp_updL (vp_updL (fun _ => 0) 0 1) 4 100))))] [.ref h0] (fun (w : va_W) (r : Option Value) => (w = [(h0, .inr (12, [.ref h1, .ref h2, .ref h3, .ref h4, .ref h5, .ref h6, .int 1, .int 0, .long 0, .long 0, .ref h7, .ref h8, .ref h9, .int 0, .int 0, .int 0, .int 0, .int 0, .int (-1), .int 0, .int 0, .ref h10, .ref h11, .ref h12, .int 0])), (h1, .inl (cA 2, 334, .inr (.inl (vp_updL (vp_updL (fun _ => 0) 0 1) 4 100))))] ∧ r = none)) jj_noX := by
  refine jj_start hl (by decide) jw_811 (jj_le rfl) ?_
  intro p e s m args below meth c A hargs hA C hex hmn
  refine jj_aload_n C dX11_subscribeAll_0 rfl ?_
  refine jj_get C jk_12 0 (by decide) jw_181 0 rfl rfl dX11_subscribeAll_1 ?_
  refine jj_iconst (v := 1) C dX11_subscribeAll_4 (by decide) ?_
  refine jj_lald (v := 0) C 1 rfl (vp_in_iff.mpr (by decide)) rfl dX11_subscribeAll_5 ?_
  refine jj_lconst (v := 1) C dX11_subscribeAll_6 (by decide) ?_
  refine jj_lcmp_neT (tgt := 30) C dX11_subscribeAll_7 dX11_subscribeAll_8 (by decide) (by decide) ?_
  refine jj_iconst (v := (-1)) C dX11_subscribeAll_30 (by decide) ?_
  refine jj_istore_n C dX11_subscribeAll_31 (by decide) rfl ?_
  refine jj_iconst (v := 0) C dX11_subscribeAll_32 (by decide) ?_
  refine jj_istore_n C dX11_subscribeAll_33 (by decide) rfl ?_
  refine jj_iload_n C dX11_subscribeAll_34 rfl ?_
  refine jj_i2l (v := 0) C dX11_subscribeAll_35 (by decide) ?_
  refine jj_aload_n C dX11_subscribeAll_36 rfl ?_
  refine jj_get C jk_12 0 (by decide) jw_181 0 rfl rfl dX11_subscribeAll_37 ?_
  refine jj_bipush (v := 8) C dX11_subscribeAll_40 (by decide) ?_
  refine jj_lald (v := 0) C 1 rfl (vp_in_iff.mpr (by decide)) rfl dX11_subscribeAll_42 ?_
  refine jj_lcmp_geT (tgt := 88) C dX11_subscribeAll_43 dX11_subscribeAll_44 (by decide) (by decide) ?_
  exact jj_vret C ⟨rfl, rfl⟩ dX11_subscribeAll_88 (jj_le rfl) (jj_le rfl)


set_option maxHeartbeats 4000000 in
set_option maxRecDepth 100000 in
theorem ct_X11_dealNow_1 {l : Launch} (hl : l.stackTraces = false) (D : va_G) (cA : Nat → ClassId) (ak : (Nat → Nat) × (Nat → Nat)) (h0 h1 h2 h3 h4 h5 h6 h7 h8 h9 h10 h11 h12 : Nat) : jj_M l D cA ak yX11_dealNow (.code yX11_dealNow cX11_dealNow 3 (some .int)) 3 73 0 0 [(h0, .inr (12, [.ref h1, .ref h2, .ref h3, .ref h4, .ref h5, .ref h6, .int 1, .int 0, .long 0, .long 0, .ref h7, .ref h8, .ref h9, .int 0, .int 0, .int 0, .int 0, .int 0, .int (-1), .int 0, .int 0, .ref h10, .ref h11, .ref h12, .int 0])), (h1, .inl (cA 2, 334, .inr (.inl (vp_updL (vp_updL (fun _ => 0) 0 1) 4 100))))] [.ref h0] (fun (w : va_W) (r : Option Value) => (w = [(h0, .inr (12, [.ref h1, .ref h2, .ref h3, .ref h4, .ref h5, .ref h6, .int 1, .int 0, .long 0, .long 0, .ref h7, .ref h8, .ref h9, .int 0, .int 0, .int 0, .int 0, .int 0, .int (-1), .int 0, .int 0, .ref h10, .ref h11, .ref h12, .int 0])), (h1, .inl (cA 2, 334, .inr (.inl (vp_updL (vp_updL (fun _ => 0) 0 1) 4 100))))] ∧ r = some (.int 0))) jj_noX := by
  refine jj_start hl (by decide) jw_816 (jj_le rfl) ?_
  intro p e s m args below meth c A hargs hA C hex hmn
  refine jj_aload_n C dX11_dealNow_0 rfl ?_
  refine jq_callV (rest := []) C (ct_X11_redeemAll_1 hl D cA ak h0 h1 h2 h3 h4 h5 h6 h7 h8 h9 h10 h11 h12) [0, 1] [] rfl rfl (by decide) (by decide) (by decide) 0 rfl rfl rfl jw_807 jw_808 jw_809 jw_224 jw_806 jn_X11_redeemAll rfl (jj_le rfl) (jj_le rfl) (jj_le rfl) (jj_le rfl) (jj_le rfl) dX11_dealNow_1 rfl (fun _ _ hX => hX.elim) (fun w1 r O_2 => ?_)
  obtain ⟨rfl, rfl⟩ := O_2
  refine jj_apd rfl ?_
  refine jj_aload_n C dX11_dealNow_4 rfl ?_
  refine jq_callV (rest := []) C (ct_X11_subscribeAll_1 hl D cA ak h0 h1 h2 h3 h4 h5 h6 h7 h8 h9 h10 h11 h12) [0, 1] [] rfl rfl (by decide) (by decide) (by decide) 0 rfl rfl rfl jw_812 jw_813 jw_814 jw_224 jw_811 jn_X11_subscribeAll rfl (jj_le rfl) (jj_le rfl) (jj_le rfl) (jj_le rfl) (jj_le rfl) dX11_dealNow_5 rfl (fun _ _ hX => hX.elim) (fun w1 r O_4 => ?_)
  obtain ⟨rfl, rfl⟩ := O_4
  refine jj_apd rfl ?_
  refine jj_iconst (v := 0) C dX11_dealNow_8 (by decide) ?_
  refine jj_istore_n C dX11_dealNow_9 (by decide) rfl ?_
  refine jj_aload_n C dX11_dealNow_10 rfl ?_
  refine jj_get C jk_12 0 (by decide) jw_181 0 rfl rfl dX11_dealNow_11 ?_
  refine jj_bipush (v := 8) C dX11_dealNow_14 (by decide) ?_
  refine jj_lald (v := 0) C 1 rfl (vp_in_iff.mpr (by decide)) rfl dX11_dealNow_16 ?_
  refine jj_l2i (v := 0) C dX11_dealNow_17 (by decide) ?_
  refine jj_iconst (v := 1) C dX11_dealNow_18 (by decide) ?_
  refine jj_isub (v := (-1)) C dX11_dealNow_19 (by decide) ?_
  refine jj_istore_n C dX11_dealNow_20 (by decide) rfl ?_
  refine jj_iload_n C dX11_dealNow_21 rfl ?_
  refine jj_if_ltT (tgt := 51) C dX11_dealNow_22 (by decide) (by decide) ?_
  refine jj_iload_n C dX11_dealNow_51 rfl ?_
  exact jj_iret C ⟨rfl, rfl⟩ dX11_dealNow_52 (jj_le rfl) (jj_le rfl)


set_option maxHeartbeats 4000000 in
set_option maxRecDepth 100000 in
theorem ct_X11_deal_1 {l : Launch} (hl : l.stackTraces = false) (D : va_G) (cA : Nat → ClassId) (ak : (Nat → Nat) × (Nat → Nat)) (h0 h1 h2 h3 h4 h5 h6 h7 h8 h9 h10 h11 h12 : Nat) : jj_M l D cA ak yX11_deal (.code yX11_deal cX11_deal 1 (some .int)) 4 95 0 0 [(h0, .inr (12, [.ref h1, .ref h2, .ref h4, .ref h5, .ref h6, .ref h3, .int 0, .int 0, .long 0, .long 0, .ref h7, .ref h8, .ref h9, .int 0, .int 0, .int 0, .int 0, .int 0, .int (-1), .int 0, .int 0, .ref h10, .ref h11, .ref h12, .int 0])), (h1, .inl (cA 2, 334, .inr (.inl (vp_updL (vp_updL (fun _ => 0) 0 1) 4 100)))), (h2, .inl (cA 2, 334, .inr (.inl (fun _ => 0)))), (h3, .inl (cA 2, 3340, .inr (.inl (fun _ => 0))))] [.ref h0] (fun (w : va_W) (r : Option Value) => (∃ (f_3 : Nat → Int64), w = [(h2, .inl (cA 2, 334, .inr (.inl (jj_cpy (vp_updL (vp_updL (fun _ => 0) 0 1) 4 100) (fun _ => 0) 334)))), (h3, .inl (cA 2, 3340, .inr (.inl f_3))), (h0, .inr (12, [.ref h1, .ref h2, .ref h4, .ref h5, .ref h6, .ref h3, .int 1, .int 0, .long 0, .long 0, .ref h7, .ref h8, .ref h9, .int 0, .int 0, .int 0, .int 0, .int 0, .int (-1), .int 0, .int 0, .ref h10, .ref h11, .ref h12, .int 0])), (h1, .inl (cA 2, 334, .inr (.inl (vp_updL (vp_updL (fun _ => 0) 0 1) 4 100))))] ∧ r = some (.int 0))) jj_noX := by
  refine jj_start hl (by decide) jw_821 (jj_le rfl) ?_
  intro p e s m args below meth c A hargs hA C hex hmn
  refine jj_aload_n C dX11_deal_0 rfl ?_
  refine jj_iconst (v := 0) C dX11_deal_1 (by decide) ?_
  refine jj_put C jk_12 7 (by decide) jw_236 rfl 0 rfl rfl rfl rfl rfl dX11_deal_2 ?_
  refine jj_aload_n C dX11_deal_5 rfl ?_
  refine jq_callV (rest := []) C (ct_X11_remember_1 hl D cA ak h0 h1 h2 h3 h4 h5 h6 h7 h8 h9 h10 h11 h12) [0, 1, 2, 3] [] rfl rfl (by decide) (by decide) (by decide) 0 rfl rfl rfl jw_337 jw_338 jw_339 jw_224 jw_336 jn_X11_remember rfl (jj_le rfl) (jj_le rfl) (jj_le rfl) (jj_le rfl) (jj_le rfl) dX11_deal_6 rfl (fun _ _ hX => hX.elim) (fun w1 r O_2 => ?_)
  obtain ⟨f_3, rfl, rfl⟩ := O_2
  refine jj_apd rfl ?_
  refine jj_aload_n C dX11_deal_9 rfl ?_
  refine jq_callV (rest := []) C (ct_X11_dealNow_1 hl D cA ak h0 h1 h2 h4 h5 h6 h3 h7 h8 h9 h10 h11 h12) [1, 0] [2, 3] rfl rfl (by decide) (by decide) (by decide) 0 rfl rfl rfl jw_817 jw_818 jw_819 jw_224 jw_816 jn_X11_dealNow rfl (jj_le rfl) (jj_le rfl) (jj_le rfl) (jj_le rfl) (jj_le rfl) dX11_deal_10 rfl (fun _ _ hX => hX.elim) (fun w1 r O_5 => ?_)
  obtain ⟨rfl, rfl⟩ := O_5
  refine jj_apd rfl ?_
  exact jj_iret C ⟨f_3, rfl, rfl⟩ dX11_deal_13 (jj_le rfl) (jj_le rfl)


set_option maxHeartbeats 4000000 in
set_option maxRecDepth 100000 in
theorem ct_X0_dropEmptyLots_1 {l : Launch} (hl : l.stackTraces = false) (D : va_G) (cA : Nat → ClassId) (ak : (Nat → Nat) × (Nat → Nat)) (h0 h1 h2 h3 h4 : Nat) : jj_M l D cA ak yX0_dropEmptyLots (.code yX0_dropEmptyLots cX0_dropEmptyLots 4 none) 0 0 0 0 [(h0, .inr (2, [.int 1, .int 0, .int 0, .int 0, .int 100, .int 0, .int 0, .int 0, .int 0, .int 0, .ref h1, .ref h2, .ref h3, .ref h4]))] [.ref h0] (fun (w : va_W) (r : Option Value) => (w = [(h0, .inr (2, [.int 1, .int 0, .int 0, .int 0, .int 100, .int 0, .int 0, .int 0, .int 0, .int 0, .ref h1, .ref h2, .ref h3, .ref h4]))] ∧ r = none)) jj_noX := by
  refine jj_start hl (by decide) jw_822 (jj_le rfl) ?_
  intro p e s m args below meth c A hargs hA C hex hmn
  refine jj_iconst (v := 0) C dX0_dropEmptyLots_0 (by decide) ?_
  refine jj_istore_n C dX0_dropEmptyLots_1 (by decide) rfl ?_
  refine jj_iconst (v := 0) C dX0_dropEmptyLots_2 (by decide) ?_
  refine jj_istore_n C dX0_dropEmptyLots_3 (by decide) rfl ?_
  refine jj_iload_n C dX0_dropEmptyLots_4 rfl ?_
  refine jj_aload_n C dX0_dropEmptyLots_5 rfl ?_
  refine jj_get C jk_2 8 (by decide) jw_67 0 rfl rfl dX0_dropEmptyLots_6 ?_
  refine jj_icmp_geT (tgt := 56) C dX0_dropEmptyLots_9 (by decide) (by decide) ?_
  refine jj_aload_n C dX0_dropEmptyLots_56 rfl ?_
  refine jj_iload_n C dX0_dropEmptyLots_57 rfl ?_
  refine jj_put C jk_2 8 (by decide) jw_67 rfl 0 rfl rfl rfl rfl rfl dX0_dropEmptyLots_58 ?_
  exact jj_vret C ⟨rfl, rfl⟩ dX0_dropEmptyLots_61 (jj_le rfl) (jj_le rfl)


set_option maxHeartbeats 4000000 in
set_option maxRecDepth 100000 in
theorem ct_X0_closeEmptySeries_1 {l : Launch} (hl : l.stackTraces = false) (D : va_G) (cA : Nat → ClassId) (ak : (Nat → Nat) × (Nat → Nat)) (h0 h1 h2 h3 h4 : Nat) : jj_M l D cA ak yX0_closeEmptySeries (.code yX0_closeEmptySeries cX0_closeEmptySeries 4 none) 0 0 0 0 [(h0, .inr (2, [.int 1, .int 0, .int 0, .int 0, .int 100, .int 0, .int 0, .int 0, .int 0, .int 0, .ref h1, .ref h2, .ref h3, .ref h4]))] [.ref h0] (fun (w : va_W) (r : Option Value) => (w = [(h0, .inr (2, [.int 1, .int 0, .int 0, .int 0, .int 100, .int 0, .int 0, .int 0, .int 0, .int 0, .ref h1, .ref h2, .ref h3, .ref h4]))] ∧ r = none)) jj_noX := by
  refine jj_start hl (by decide) jw_827 (jj_le rfl) ?_
  intro p e s m args below meth c A hargs hA C hex hmn
  refine jj_iconst (v := 0) C dX0_closeEmptySeries_0 (by decide) ?_
  refine jj_istore_n C dX0_closeEmptySeries_1 (by decide) rfl ?_
  refine jj_iconst (v := 0) C dX0_closeEmptySeries_2 (by decide) ?_
  refine jj_istore_n C dX0_closeEmptySeries_3 (by decide) rfl ?_
  refine jj_iload_n C dX0_closeEmptySeries_4 rfl ?_
  refine jj_aload_n C dX0_closeEmptySeries_5 rfl ?_
  refine jj_get C jk_2 7 (by decide) jw_66 0 rfl rfl dX0_closeEmptySeries_6 ?_
  refine jj_icmp_geT (tgt := 72) C dX0_closeEmptySeries_9 (by decide) (by decide) ?_
  refine jj_aload_n C dX0_closeEmptySeries_72 rfl ?_
  refine jj_iload_n C dX0_closeEmptySeries_73 rfl ?_
  refine jj_put C jk_2 7 (by decide) jw_66 rfl 0 rfl rfl rfl rfl rfl dX0_closeEmptySeries_74 ?_
  exact jj_vret C ⟨rfl, rfl⟩ dX0_closeEmptySeries_77 (jj_le rfl) (jj_le rfl)


set_option maxHeartbeats 4000000 in
set_option maxRecDepth 100000 in
theorem ct_X2_settleAll_1 {l : Launch} (hl : l.stackTraces = false) (D : va_G) (cA : Nat → ClassId) (ak : (Nat → Nat) × (Nat → Nat)) (h0 h1 h2 h3 h4 : Nat) : jj_M l D cA ak yX2_settleAll (.code yX2_settleAll cX2_settleAll 4 (some .long)) 1 23 0 0 [(h0, .inr (2, [.int 1, .int 0, .int 0, .int 0, .int 100, .int 0, .int 0, .int 0, .int 0, .int 0, .ref h1, .ref h2, .ref h3, .ref h4])), (h1, .inl (cA 2, 6, .inr (.inl (fun _ => 0))))] [.ref h0] (fun (w : va_W) (r : Option Value) => (w = [(h1, .inl (cA 2, 6, .inr (.inl (fun _ => 0)))), (h0, .inr (2, [.int 1, .int 0, .int 0, .int 0, .int 100, .int 0, .int 0, .int 0, .int 0, .int 0, .ref h1, .ref h2, .ref h3, .ref h4]))] ∧ r = some (.long 0))) jj_noX := by
  refine jj_start hl (by decide) jw_832 (jj_le rfl) ?_
  intro p e s m args below meth c A hargs hA C hex hmn
  refine jj_aload_n C dX2_settleAll_0 rfl ?_
  refine jj_get C jk_2 10 (by decide) jw_410 0 rfl rfl dX2_settleAll_1 ?_
  refine jj_iconst (v := 0) C dX2_settleAll_4 (by decide) ?_
  refine jj_lald (v := 0) C 1 rfl (vp_in_iff.mpr (by decide)) rfl dX2_settleAll_5 ?_
  refine jj_lstore_n C dX2_settleAll_6 (by decide) rfl ?_
  refine jj_iconst (v := 0) C dX2_settleAll_7 (by decide) ?_
  refine jj_istore_n C dX2_settleAll_8 (by decide) rfl ?_
  refine jj_iload_n C dX2_settleAll_9 rfl ?_
  refine jj_aload_n C dX2_settleAll_10 rfl ?_
  refine jj_get C jk_2 7 (by decide) jw_404 0 rfl rfl dX2_settleAll_11 ?_
  refine jj_icmp_geT (tgt := 33) C dX2_settleAll_14 (by decide) (by decide) ?_
  refine jj_aload_n C dX2_settleAll_33 rfl ?_
  refine jq_callV (rest := []) C (ct_X0_dropEmptyLots_1 hl D cA ak h0 h1 h2 h3 h4) [0] [1] rfl rfl (by decide) (by decide) (by decide) 0 rfl rfl rfl jw_823 jw_824 jw_825 jw_57 jw_822 jn_X0_dropEmptyLots rfl (jj_le rfl) (jj_le rfl) (jj_le rfl) (jj_le rfl) (jj_le rfl) dX2_settleAll_34 rfl (fun _ _ hX => hX.elim) (fun w1 r O_2 => ?_)
  obtain ⟨rfl, rfl⟩ := O_2
  refine jj_apd rfl ?_
  refine jj_aload_n C dX2_settleAll_37 rfl ?_
  refine jq_callV (rest := []) C (ct_X0_closeEmptySeries_1 hl D cA ak h0 h1 h2 h3 h4) [1] [0] rfl rfl (by decide) (by decide) (by decide) 0 rfl rfl rfl jw_828 jw_829 jw_830 jw_57 jw_827 jn_X0_closeEmptySeries rfl (jj_le rfl) (jj_le rfl) (jj_le rfl) (jj_le rfl) (jj_le rfl) dX2_settleAll_38 rfl (fun _ _ hX => hX.elim) (fun w1 r O_4 => ?_)
  obtain ⟨rfl, rfl⟩ := O_4
  refine jj_apd rfl ?_
  refine jj_aload_n C dX2_settleAll_41 rfl ?_
  refine jj_get C jk_2 10 (by decide) jw_410 1 rfl rfl dX2_settleAll_42 ?_
  refine jj_iconst (v := 0) C dX2_settleAll_45 (by decide) ?_
  refine jj_lald (v := 0) C 0 rfl (vp_in_iff.mpr (by decide)) rfl dX2_settleAll_46 ?_
  refine jj_lload_n C dX2_settleAll_47 rfl ?_
  refine jj_lsub (v := 0) C dX2_settleAll_48 (by decide) ?_
  exact jj_lret C ⟨rfl, rfl⟩ dX2_settleAll_49 (jj_le rfl) (jj_le rfl)


set_option maxHeartbeats 4000000 in
set_option maxRecDepth 100000 in
theorem ct_X10_crystallize_1 {l : Launch} (hl : l.stackTraces = false) (D : va_G) (cA : Nat → ClassId) (ak : (Nat → Nat) × (Nat → Nat)) (h0 h1 h2 h3 h4 h5 h6 h7 h8 h9 h10 : Nat) : jj_M l D cA ak yX10_crystallize (.code yX10_crystallize cX10_crystallize 1 (some .long)) 4 73 63 408 [(h0, .inr (11, [.ref h4, .int 0, .int (-1), .ref h1, .ref h5, .ref h6, .ref h2, .int 0, .int 0, .ref h7])), (h1, .inr (2, [.int 1, .int 0, .int 0, .int 0, .int 100, .int 0, .int 0, .int 0, .int 0, .int 0, .ref h3, .ref h8, .ref h9, .ref h10])), (h2, .inl (cA 5, 10, .inr (.inr (.inr (.inr (fun _ => none)))))), (h3, .inl (cA 2, 6, .inr (.inl (fun _ => 0))))] [.ref h0] (fun (w : va_W) (r : Option Value) => (r = some (.long 0))) jj_noX := by
  refine jj_start hl (by decide) jw_836 (jj_le rfl) ?_
  intro p e s m args below meth c A hargs hA C hex hmn
  refine jj_aload_n C dX10_crystallize_0 rfl ?_
  refine jq_callV (rest := []) C (ct_X10_remember_1 hl D cA ak h0 h1 h2 h3 h4 h5 h6 h7 h8 h9 h10) [0, 1, 2, 3] [] rfl rfl (by decide) (by decide) (by decide) 0 rfl rfl rfl jw_280 jw_281 jw_282 jw_271 jw_279 jn_X10_remember rfl (jj_le rfl) (jj_le rfl) (jj_le rfl) (jj_le rfl) (jj_le rfl) dX10_crystallize_1 rfl (fun _ _ hX => hX.elim) (fun w1 r O_2 => ?_)
  obtain ⟨q_3, q_4, q_5, q_6, q_7, q_8, f_9, c_10, rfl, rfl⟩ := O_2
  refine jj_apd rfl ?_
  refine jj_aload_n C dX10_crystallize_4 rfl ?_
  refine jj_get C jk_11 3 (by decide) jw_135 0 rfl rfl dX10_crystallize_5 ?_
  refine jq_callS (rest := []) C (ct_X2_settleAll_1 hl D cA ak h1 h3 h8 h9 h10) [5, 7] [0, 1, 2, 3, 4, 6] rfl rfl (by decide) (by decide) (by decide) jw_833 jw_834 jw_407 jw_832 jn_X2_settleAll rfl (jj_le rfl) (jj_le rfl) (jj_le rfl) (jj_le rfl) (jj_le rfl) dX10_crystallize_8 rfl (fun _ _ hX => hX.elim) (fun w1 r O_12 => ?_)
  obtain ⟨rfl, rfl⟩ := O_12
  refine jj_apd rfl ?_
  exact jj_lret C rfl dX10_crystallize_11 (jj_le rfl) (jj_le rfl)


set_option maxHeartbeats 4000000 in
set_option maxRecDepth 100000 in
theorem ct_X11_dropEmptyLots_3 {l : Launch} (hl : l.stackTraces = false) (D : va_G) (cA : Nat → ClassId) (ak : (Nat → Nat) × (Nat → Nat)) (h0 h1 h2 h3 h4 h5 h6 h7 h8 h9 h10 h11 h12 : Nat) : jj_M l D cA ak yX11_dropEmptyLots (.code yX11_dropEmptyLots cX11_dropEmptyLots 2 none) 0 0 0 0 [(h0, .inr (12, [.ref h1, .ref h2, .ref h3, .ref h4, .ref h5, .ref h6, .int 1, .int 0, .long 0, .long 0, .ref h7, .ref h8, .ref h9, .int 0, .int 0, .int 0, .int 0, .int 0, .int (-1), .int 0, .int 0, .ref h10, .ref h11, .ref h12, .int 0])), (h1, .inl (cA 2, 334, .inr (.inl (vp_updL (vp_updL (fun _ => 0) 0 1) 4 100))))] [.ref h0] (fun (w : va_W) (r : Option Value) => (w = [(h0, .inr (12, [.ref h1, .ref h2, .ref h3, .ref h4, .ref h5, .ref h6, .int 1, .int 0, .long 0, .long 0, .ref h7, .ref h8, .ref h9, .int 0, .int 0, .int 0, .int 0, .int 0, .int (-1), .int 0, .int 0, .ref h10, .ref h11, .ref h12, .int 0])), (h1, .inl (cA 2, 334, .inr (.inl (vp_updL (vp_updL (fun _ => 0) 0 1) 4 100))))] ∧ r = none)) jj_noX := by
  refine jj_start hl (by decide) jw_541 (jj_le rfl) ?_
  intro p e s m args below meth c A hargs hA C hex hmn
  refine jj_aload_n C dX11_dropEmptyLots_0 rfl ?_
  refine jj_get C jk_12 0 (by decide) jw_181 0 rfl rfl dX11_dropEmptyLots_1 ?_
  refine jj_bipush (v := 7) C dX11_dropEmptyLots_4 (by decide) ?_
  refine jj_lald (v := 0) C 1 rfl (vp_in_iff.mpr (by decide)) rfl dX11_dropEmptyLots_6 ?_
  refine jj_l2i (v := 0) C dX11_dropEmptyLots_7 (by decide) ?_
  refine jj_iconst (v := 1) C dX11_dropEmptyLots_8 (by decide) ?_
  refine jj_isub (v := (-1)) C dX11_dropEmptyLots_9 (by decide) ?_
  refine jj_istore_n C dX11_dropEmptyLots_10 (by decide) rfl ?_
  refine jj_iload_n C dX11_dropEmptyLots_11 rfl ?_
  refine jj_if_ltT (tgt := 45) C dX11_dropEmptyLots_12 (by decide) (by decide) ?_
  exact jj_vret C ⟨rfl, rfl⟩ dX11_dropEmptyLots_45 (jj_le rfl) (jj_le rfl)


set_option maxHeartbeats 4000000 in
set_option maxRecDepth 100000 in
theorem ct_X11_closeEmpty_3 {l : Launch} (hl : l.stackTraces = false) (D : va_G) (cA : Nat → ClassId) (ak : (Nat → Nat) × (Nat → Nat)) (h0 h1 h2 h3 h4 h5 h6 h7 h8 h9 h10 h11 h12 : Nat) : jj_M l D cA ak yX11_closeEmpty (.code yX11_closeEmpty cX11_closeEmpty 3 none) 0 0 0 0 [(h0, .inr (12, [.ref h1, .ref h2, .ref h3, .ref h4, .ref h5, .ref h6, .int 1, .int 0, .long 0, .long 0, .ref h7, .ref h8, .ref h9, .int 0, .int 0, .int 0, .int 0, .int 0, .int (-1), .int 0, .int 0, .ref h10, .ref h11, .ref h12, .int 0])), (h1, .inl (cA 2, 334, .inr (.inl (vp_updL (vp_updL (fun _ => 0) 0 1) 4 100))))] [.ref h0] (fun (w : va_W) (r : Option Value) => (w = [(h0, .inr (12, [.ref h1, .ref h2, .ref h3, .ref h4, .ref h5, .ref h6, .int 1, .int 0, .long 0, .long 0, .ref h7, .ref h8, .ref h9, .int 0, .int 0, .int 0, .int 0, .int 0, .int (-1), .int 0, .int 0, .ref h10, .ref h11, .ref h12, .int 0])), (h1, .inl (cA 2, 334, .inr (.inl (vp_updL (vp_updL (fun _ => 0) 0 1) 4 100))))] ∧ r = none)) jj_noX := by
  refine jj_start hl (by decide) jw_546 (jj_le rfl) ?_
  intro p e s m args below meth c A hargs hA C hex hmn
  refine jj_aload_n C dX11_closeEmpty_0 rfl ?_
  refine jj_get C jk_12 0 (by decide) jw_181 0 rfl rfl dX11_closeEmpty_1 ?_
  refine jj_bipush (v := 6) C dX11_closeEmpty_4 (by decide) ?_
  refine jj_lald (v := 0) C 1 rfl (vp_in_iff.mpr (by decide)) rfl dX11_closeEmpty_6 ?_
  refine jj_l2i (v := 0) C dX11_closeEmpty_7 (by decide) ?_
  refine jj_iconst (v := 1) C dX11_closeEmpty_8 (by decide) ?_
  refine jj_isub (v := (-1)) C dX11_closeEmpty_9 (by decide) ?_
  refine jj_istore_n C dX11_closeEmpty_10 (by decide) rfl ?_
  refine jj_iload_n C dX11_closeEmpty_11 rfl ?_
  refine jj_if_ltT (tgt := 65) C dX11_closeEmpty_12 (by decide) (by decide) ?_
  exact jj_vret C ⟨rfl, rfl⟩ dX11_closeEmpty_65 (jj_le rfl) (jj_le rfl)


set_option maxHeartbeats 4000000 in
set_option maxRecDepth 100000 in
theorem ct_X11_crystallizeAll_1 {l : Launch} (hl : l.stackTraces = false) (D : va_G) (cA : Nat → ClassId) (ak : (Nat → Nat) × (Nat → Nat)) (h0 h1 h2 h3 h4 h5 h6 h7 h8 h9 h10 h11 h12 : Nat) : jj_M l D cA ak yX11_crystallizeAll (.code yX11_crystallizeAll cX11_crystallizeAll 4 (some .long)) 1 22 0 0 [(h0, .inr (12, [.ref h1, .ref h2, .ref h3, .ref h4, .ref h5, .ref h6, .int 1, .int 0, .long 0, .long 0, .ref h7, .ref h8, .ref h9, .int 0, .int 0, .int 0, .int 0, .int 0, .int (-1), .int 0, .int 0, .ref h10, .ref h11, .ref h12, .int 0])), (h1, .inl (cA 2, 334, .inr (.inl (vp_updL (vp_updL (fun _ => 0) 0 1) 4 100))))] [.ref h0] (fun (w : va_W) (r : Option Value) => (w = [(h0, .inr (12, [.ref h1, .ref h2, .ref h3, .ref h4, .ref h5, .ref h6, .int 1, .int 0, .long 0, .long 0, .ref h7, .ref h8, .ref h9, .int 0, .int 0, .int 0, .int 0, .int 0, .int (-1), .int 0, .int 0, .ref h10, .ref h11, .ref h12, .int 0])), (h1, .inl (cA 2, 334, .inr (.inl (vp_updL (vp_updL (fun _ => 0) 0 1) 4 100))))] ∧ r = some (.long 0))) jj_noX := by
  refine jj_start hl (by decide) jw_837 (jj_le rfl) ?_
  intro p e s m args below meth c A hargs hA C hex hmn
  refine jj_aload_n C dX11_crystallizeAll_0 rfl ?_
  refine jj_get C jk_12 0 (by decide) jw_181 0 rfl rfl dX11_crystallizeAll_1 ?_
  refine jj_bipush (v := 10) C dX11_crystallizeAll_4 (by decide) ?_
  refine jj_lald (v := 0) C 1 rfl (vp_in_iff.mpr (by decide)) rfl dX11_crystallizeAll_6 ?_
  refine jj_lstore_n C dX11_crystallizeAll_7 (by decide) rfl ?_
  refine jj_iconst (v := 0) C dX11_crystallizeAll_8 (by decide) ?_
  refine jj_istore_n C dX11_crystallizeAll_9 (by decide) rfl ?_
  refine jj_iload_n C dX11_crystallizeAll_10 rfl ?_
  refine jj_i2l (v := 0) C dX11_crystallizeAll_11 (by decide) ?_
  refine jj_aload_n C dX11_crystallizeAll_12 rfl ?_
  refine jj_get C jk_12 0 (by decide) jw_181 0 rfl rfl dX11_crystallizeAll_13 ?_
  refine jj_bipush (v := 6) C dX11_crystallizeAll_16 (by decide) ?_
  refine jj_lald (v := 0) C 1 rfl (vp_in_iff.mpr (by decide)) rfl dX11_crystallizeAll_18 ?_
  refine jj_lcmp_geT (tgt := 37) C dX11_crystallizeAll_19 dX11_crystallizeAll_20 (by decide) (by decide) ?_
  refine jj_aload_n C dX11_crystallizeAll_37 rfl ?_
  refine jq_callV (rest := []) C (ct_X11_dropEmptyLots_3 hl D cA ak h0 h1 h2 h3 h4 h5 h6 h7 h8 h9 h10 h11 h12) [0, 1] [] rfl rfl (by decide) (by decide) (by decide) 0 rfl rfl rfl jw_542 jw_543 jw_544 jw_224 jw_541 jn_X11_dropEmptyLots rfl (jj_le rfl) (jj_le rfl) (jj_le rfl) (jj_le rfl) (jj_le rfl) dX11_crystallizeAll_38 rfl (fun _ _ hX => hX.elim) (fun w1 r O_2 => ?_)
  obtain ⟨rfl, rfl⟩ := O_2
  refine jj_apd rfl ?_
  refine jj_aload_n C dX11_crystallizeAll_41 rfl ?_
  refine jq_callV (rest := []) C (ct_X11_closeEmpty_3 hl D cA ak h0 h1 h2 h3 h4 h5 h6 h7 h8 h9 h10 h11 h12) [0, 1] [] rfl rfl (by decide) (by decide) (by decide) 0 rfl rfl rfl jw_547 jw_548 jw_549 jw_224 jw_546 jn_X11_closeEmpty rfl (jj_le rfl) (jj_le rfl) (jj_le rfl) (jj_le rfl) (jj_le rfl) dX11_crystallizeAll_42 rfl (fun _ _ hX => hX.elim) (fun w1 r O_4 => ?_)
  obtain ⟨rfl, rfl⟩ := O_4
  refine jj_apd rfl ?_
  refine jj_aload_n C dX11_crystallizeAll_45 rfl ?_
  refine jj_get C jk_12 0 (by decide) jw_181 0 rfl rfl dX11_crystallizeAll_46 ?_
  refine jj_bipush (v := 10) C dX11_crystallizeAll_49 (by decide) ?_
  refine jj_lald (v := 0) C 1 rfl (vp_in_iff.mpr (by decide)) rfl dX11_crystallizeAll_51 ?_
  refine jj_lload_n C dX11_crystallizeAll_52 rfl ?_
  refine jj_lsub (v := 0) C dX11_crystallizeAll_53 (by decide) ?_
  exact jj_lret C ⟨rfl, rfl⟩ dX11_crystallizeAll_54 (jj_le rfl) (jj_le rfl)


set_option maxHeartbeats 4000000 in
set_option maxRecDepth 100000 in
theorem ct_X11_crystallize_1 {l : Launch} (hl : l.stackTraces = false) (D : va_G) (cA : Nat → ClassId) (ak : (Nat → Nat) × (Nat → Nat)) (h0 h1 h2 h3 h4 h5 h6 h7 h8 h9 h10 h11 h12 : Nat) : jj_M l D cA ak yX11_crystallize (.code yX11_crystallize cX11_crystallize 1 (some .long)) 2 45 0 0 [(h0, .inr (12, [.ref h1, .ref h2, .ref h4, .ref h5, .ref h6, .ref h3, .int 0, .int 0, .long 0, .long 0, .ref h7, .ref h8, .ref h9, .int 0, .int 0, .int 0, .int 0, .int 0, .int (-1), .int 0, .int 0, .ref h10, .ref h11, .ref h12, .int 0])), (h1, .inl (cA 2, 334, .inr (.inl (vp_updL (vp_updL (fun _ => 0) 0 1) 4 100)))), (h2, .inl (cA 2, 334, .inr (.inl (fun _ => 0)))), (h3, .inl (cA 2, 3340, .inr (.inl (fun _ => 0))))] [.ref h0] (fun (w : va_W) (r : Option Value) => (∃ (f_3 : Nat → Int64), w = [(h2, .inl (cA 2, 334, .inr (.inl (jj_cpy (vp_updL (vp_updL (fun _ => 0) 0 1) 4 100) (fun _ => 0) 334)))), (h3, .inl (cA 2, 3340, .inr (.inl f_3))), (h0, .inr (12, [.ref h1, .ref h2, .ref h4, .ref h5, .ref h6, .ref h3, .int 1, .int 0, .long 0, .long 0, .ref h7, .ref h8, .ref h9, .int 0, .int 0, .int 0, .int 0, .int 0, .int (-1), .int 0, .int 0, .ref h10, .ref h11, .ref h12, .int 0])), (h1, .inl (cA 2, 334, .inr (.inl (vp_updL (vp_updL (fun _ => 0) 0 1) 4 100))))] ∧ r = some (.long 0))) jj_noX := by
  refine jj_start hl (by decide) jw_842 (jj_le rfl) ?_
  intro p e s m args below meth c A hargs hA C hex hmn
  refine jj_aload_n C dX11_crystallize_0 rfl ?_
  refine jj_iconst (v := 0) C dX11_crystallize_1 (by decide) ?_
  refine jj_put C jk_12 7 (by decide) jw_236 rfl 0 rfl rfl rfl rfl rfl dX11_crystallize_2 ?_
  refine jj_aload_n C dX11_crystallize_5 rfl ?_
  refine jq_callV (rest := []) C (ct_X11_remember_1 hl D cA ak h0 h1 h2 h3 h4 h5 h6 h7 h8 h9 h10 h11 h12) [0, 1, 2, 3] [] rfl rfl (by decide) (by decide) (by decide) 0 rfl rfl rfl jw_337 jw_338 jw_339 jw_224 jw_336 jn_X11_remember rfl (jj_le rfl) (jj_le rfl) (jj_le rfl) (jj_le rfl) (jj_le rfl) dX11_crystallize_6 rfl (fun _ _ hX => hX.elim) (fun w1 r O_2 => ?_)
  obtain ⟨f_3, rfl, rfl⟩ := O_2
  refine jj_apd rfl ?_
  refine jj_aload_n C dX11_crystallize_9 rfl ?_
  refine jq_callV (rest := []) C (ct_X11_crystallizeAll_1 hl D cA ak h0 h1 h2 h4 h5 h6 h3 h7 h8 h9 h10 h11 h12) [1, 0] [2, 3] rfl rfl (by decide) (by decide) (by decide) 0 rfl rfl rfl jw_838 jw_839 jw_840 jw_224 jw_837 jn_X11_crystallizeAll rfl (jj_le rfl) (jj_le rfl) (jj_le rfl) (jj_le rfl) (jj_le rfl) dX11_crystallize_10 rfl (fun _ _ hX => hX.elim) (fun w1 r O_5 => ?_)
  obtain ⟨rfl, rfl⟩ := O_5
  refine jj_apd rfl ?_
  exact jj_lret C ⟨f_3, rfl, rfl⟩ dX11_crystallize_13 (jj_le rfl) (jj_le rfl)


set_option maxHeartbeats 4000000 in
set_option maxRecDepth 100000 in
theorem ct_X2_mergeAll_1 {l : Launch} (hl : l.stackTraces = false) (D : va_G) (cA : Nat → ClassId) (ak : (Nat → Nat) × (Nat → Nat)) (h0 h1 h2 h3 h4 : Nat) : jj_M l D cA ak yX2_mergeAll (.code yX2_mergeAll cX2_mergeAll 6 (some .int)) 0 0 0 0 [(h0, .inr (2, [.int 1, .int 0, .int 0, .int 0, .int 100, .int 0, .int 0, .int 0, .int 0, .int 0, .ref h1, .ref h2, .ref h3, .ref h4]))] [.ref h0] (fun (w : va_W) (r : Option Value) => (w = [(h0, .inr (2, [.int 1, .int 0, .int 0, .int 0, .int 100, .int 0, .int 0, .int 0, .int 0, .int 0, .ref h1, .ref h2, .ref h3, .ref h4]))] ∧ r = some (.int 0))) jj_noX := by
  refine jj_start hl (by decide) jw_844 (jj_le rfl) ?_
  intro p e s m args below meth c A hargs hA C hex hmn
  refine jj_aload_n C dX2_mergeAll_0 rfl ?_
  refine jj_get C jk_2 1 (by decide) jw_843 0 rfl rfl dX2_mergeAll_1 ?_
  refine jj_iconst (v := 1) C dX2_mergeAll_4 (by decide) ?_
  refine jj_icmp_eqF (tgt := 15) C dX2_mergeAll_5 (by decide) (by decide) ?_
  refine jj_aload_n C dX2_mergeAll_8 rfl ?_
  refine jj_get C jk_2 7 (by decide) jw_404 0 rfl rfl dX2_mergeAll_9 ?_
  refine jj_if_neF (tgt := 17) C dX2_mergeAll_12 (by decide) (by decide) ?_
  refine jj_iconst (v := 0) C dX2_mergeAll_15 (by decide) ?_
  exact jj_iret C ⟨rfl, rfl⟩ dX2_mergeAll_16 (jj_le rfl) (jj_le rfl)


set_option maxHeartbeats 4000000 in
set_option maxRecDepth 100000 in
theorem ct_X10_merge_1 {l : Launch} (hl : l.stackTraces = false) (D : va_G) (cA : Nat → ClassId) (ak : (Nat → Nat) × (Nat → Nat)) (h0 h1 h2 h3 h4 h5 h6 h7 h8 h9 h10 : Nat) : jj_M l D cA ak yX10_merge (.code yX10_merge cX10_merge 1 (some .int)) 4 73 63 408 [(h0, .inr (11, [.ref h4, .int 0, .int (-1), .ref h1, .ref h5, .ref h6, .ref h2, .int 0, .int 0, .ref h7])), (h1, .inr (2, [.int 1, .int 0, .int 0, .int 0, .int 100, .int 0, .int 0, .int 0, .int 0, .int 0, .ref h3, .ref h8, .ref h9, .ref h10])), (h2, .inl (cA 5, 10, .inr (.inr (.inr (.inr (fun _ => none)))))), (h3, .inl (cA 2, 6, .inr (.inl (fun _ => 0))))] [.ref h0] (fun (w : va_W) (r : Option Value) => (r = some (.int 0))) jj_noX := by
  refine jj_start hl (by decide) jw_848 (jj_le rfl) ?_
  intro p e s m args below meth c A hargs hA C hex hmn
  refine jj_aload_n C dX10_merge_0 rfl ?_
  refine jq_callV (rest := []) C (ct_X10_remember_1 hl D cA ak h0 h1 h2 h3 h4 h5 h6 h7 h8 h9 h10) [0, 1, 2, 3] [] rfl rfl (by decide) (by decide) (by decide) 0 rfl rfl rfl jw_280 jw_281 jw_282 jw_271 jw_279 jn_X10_remember rfl (jj_le rfl) (jj_le rfl) (jj_le rfl) (jj_le rfl) (jj_le rfl) dX10_merge_1 rfl (fun _ _ hX => hX.elim) (fun w1 r O_2 => ?_)
  obtain ⟨q_3, q_4, q_5, q_6, q_7, q_8, f_9, c_10, rfl, rfl⟩ := O_2
  refine jj_apd rfl ?_
  refine jj_aload_n C dX10_merge_4 rfl ?_
  refine jj_get C jk_11 3 (by decide) jw_135 0 rfl rfl dX10_merge_5 ?_
  refine jq_callS (rest := []) C (ct_X2_mergeAll_1 hl D cA ak h1 h3 h8 h9 h10) [5] [0, 1, 2, 3, 4, 6, 7] rfl rfl (by decide) (by decide) (by decide) jw_845 jw_846 jw_407 jw_844 jn_X2_mergeAll rfl (jj_le rfl) (jj_le rfl) (jj_le rfl) (jj_le rfl) (jj_le rfl) dX10_merge_8 rfl (fun _ _ hX => hX.elim) (fun w1 r O_12 => ?_)
  obtain ⟨rfl, rfl⟩ := O_12
  refine jj_apd rfl ?_
  exact jj_iret C rfl dX10_merge_11 (jj_le rfl) (jj_le rfl)


set_option maxHeartbeats 4000000 in
set_option maxRecDepth 100000 in
theorem ct_X11_mergeAll_1 {l : Launch} (hl : l.stackTraces = false) (D : va_G) (cA : Nat → ClassId) (ak : (Nat → Nat) × (Nat → Nat)) (h0 h1 h2 h3 h4 h5 h6 h7 h8 h9 h10 h11 h12 : Nat) : jj_M l D cA ak yX11_mergeAll (.code yX11_mergeAll cX11_mergeAll 7 (some .int)) 0 0 0 0 [(h0, .inr (12, [.ref h1, .ref h2, .ref h3, .ref h4, .ref h5, .ref h6, .int 1, .int 0, .long 0, .long 0, .ref h7, .ref h8, .ref h9, .int 0, .int 0, .int 0, .int 0, .int 0, .int (-1), .int 0, .int 0, .ref h10, .ref h11, .ref h12, .int 0])), (h1, .inl (cA 2, 334, .inr (.inl (vp_updL (vp_updL (fun _ => 0) 0 1) 4 100))))] [.ref h0] (fun (w : va_W) (r : Option Value) => (w = [(h0, .inr (12, [.ref h1, .ref h2, .ref h3, .ref h4, .ref h5, .ref h6, .int 1, .int 0, .long 0, .long 0, .ref h7, .ref h8, .ref h9, .int 0, .int 0, .int 0, .int 0, .int 0, .int (-1), .int 0, .int 0, .ref h10, .ref h11, .ref h12, .int 0])), (h1, .inl (cA 2, 334, .inr (.inl (vp_updL (vp_updL (fun _ => 0) 0 1) 4 100))))] ∧ r = some (.int 0))) jj_noX := by
  refine jj_start hl (by decide) jw_849 (jj_le rfl) ?_
  intro p e s m args below meth c A hargs hA C hex hmn
  refine jj_aload_n C dX11_mergeAll_0 rfl ?_
  refine jj_get C jk_12 0 (by decide) jw_181 0 rfl rfl dX11_mergeAll_1 ?_
  refine jj_iconst (v := 1) C dX11_mergeAll_4 (by decide) ?_
  refine jj_lald (v := 0) C 1 rfl (vp_in_iff.mpr (by decide)) rfl dX11_mergeAll_5 ?_
  refine jj_lconst (v := 1) C dX11_mergeAll_6 (by decide) ?_
  refine jj_lcmp_eqF (tgt := 23) C dX11_mergeAll_7 dX11_mergeAll_8 (by decide) (by decide) ?_
  refine jj_aload_n C dX11_mergeAll_11 rfl ?_
  refine jj_get C jk_12 0 (by decide) jw_181 0 rfl rfl dX11_mergeAll_12 ?_
  refine jj_bipush (v := 6) C dX11_mergeAll_15 (by decide) ?_
  refine jj_lald (v := 0) C 1 rfl (vp_in_iff.mpr (by decide)) rfl dX11_mergeAll_17 ?_
  refine jj_lconst (v := 0) C dX11_mergeAll_18 (by decide) ?_
  refine jj_lcmp_neF (tgt := 25) C dX11_mergeAll_19 dX11_mergeAll_20 (by decide) (by decide) ?_
  refine jj_iconst (v := 0) C dX11_mergeAll_23 (by decide) ?_
  exact jj_iret C ⟨rfl, rfl⟩ dX11_mergeAll_24 (jj_le rfl) (jj_le rfl)


set_option maxHeartbeats 4000000 in
set_option maxRecDepth 100000 in
theorem ct_X11_merge_1 {l : Launch} (hl : l.stackTraces = false) (D : va_G) (cA : Nat → ClassId) (ak : (Nat → Nat) × (Nat → Nat)) (h0 h1 h2 h3 h4 h5 h6 h7 h8 h9 h10 h11 h12 : Nat) : jj_M l D cA ak yX11_merge (.code yX11_merge cX11_merge 1 (some .int)) 2 42 0 0 [(h0, .inr (12, [.ref h1, .ref h2, .ref h4, .ref h5, .ref h6, .ref h3, .int 0, .int 0, .long 0, .long 0, .ref h7, .ref h8, .ref h9, .int 0, .int 0, .int 0, .int 0, .int 0, .int (-1), .int 0, .int 0, .ref h10, .ref h11, .ref h12, .int 0])), (h1, .inl (cA 2, 334, .inr (.inl (vp_updL (vp_updL (fun _ => 0) 0 1) 4 100)))), (h2, .inl (cA 2, 334, .inr (.inl (fun _ => 0)))), (h3, .inl (cA 2, 3340, .inr (.inl (fun _ => 0))))] [.ref h0] (fun (w : va_W) (r : Option Value) => (∃ (f_3 : Nat → Int64), w = [(h2, .inl (cA 2, 334, .inr (.inl (jj_cpy (vp_updL (vp_updL (fun _ => 0) 0 1) 4 100) (fun _ => 0) 334)))), (h3, .inl (cA 2, 3340, .inr (.inl f_3))), (h0, .inr (12, [.ref h1, .ref h2, .ref h4, .ref h5, .ref h6, .ref h3, .int 1, .int 0, .long 0, .long 0, .ref h7, .ref h8, .ref h9, .int 0, .int 0, .int 0, .int 0, .int 0, .int (-1), .int 0, .int 0, .ref h10, .ref h11, .ref h12, .int 0])), (h1, .inl (cA 2, 334, .inr (.inl (vp_updL (vp_updL (fun _ => 0) 0 1) 4 100))))] ∧ r = some (.int 0))) jj_noX := by
  refine jj_start hl (by decide) jw_854 (jj_le rfl) ?_
  intro p e s m args below meth c A hargs hA C hex hmn
  refine jj_aload_n C dX11_merge_0 rfl ?_
  refine jj_iconst (v := 0) C dX11_merge_1 (by decide) ?_
  refine jj_put C jk_12 7 (by decide) jw_236 rfl 0 rfl rfl rfl rfl rfl dX11_merge_2 ?_
  refine jj_aload_n C dX11_merge_5 rfl ?_
  refine jq_callV (rest := []) C (ct_X11_remember_1 hl D cA ak h0 h1 h2 h3 h4 h5 h6 h7 h8 h9 h10 h11 h12) [0, 1, 2, 3] [] rfl rfl (by decide) (by decide) (by decide) 0 rfl rfl rfl jw_337 jw_338 jw_339 jw_224 jw_336 jn_X11_remember rfl (jj_le rfl) (jj_le rfl) (jj_le rfl) (jj_le rfl) (jj_le rfl) dX11_merge_6 rfl (fun _ _ hX => hX.elim) (fun w1 r O_2 => ?_)
  obtain ⟨f_3, rfl, rfl⟩ := O_2
  refine jj_apd rfl ?_
  refine jj_aload_n C dX11_merge_9 rfl ?_
  refine jq_callV (rest := []) C (ct_X11_mergeAll_1 hl D cA ak h0 h1 h2 h4 h5 h6 h3 h7 h8 h9 h10 h11 h12) [1, 0] [2, 3] rfl rfl (by decide) (by decide) (by decide) 0 rfl rfl rfl jw_850 jw_851 jw_852 jw_224 jw_849 jn_X11_mergeAll rfl (jj_le rfl) (jj_le rfl) (jj_le rfl) (jj_le rfl) (jj_le rfl) dX11_merge_10 rfl (fun _ _ hX => hX.elim) (fun w1 r O_5 => ?_)
  obtain ⟨rfl, rfl⟩ := O_5
  refine jj_apd rfl ?_
  exact jj_iret C ⟨f_3, rfl, rfl⟩ dX11_merge_13 (jj_le rfl) (jj_le rfl)


set_option maxHeartbeats 4000000 in
set_option maxRecDepth 100000 in
theorem ct_X7_init_1 {l : Launch} (hl : l.stackTraces = false) (D : va_G) (cA : Nat → ClassId) (ak : (Nat → Nat) × (Nat → Nat)) (h0 h1 h2 h3 : Nat) : jj_I l D cA ak yX7_init (.code yX7_init cX7_init 4 none) 1 12 0 0 [(h0, .inr (8, [.null, .null, .null, .int 0, .int 0, .int 0]))] [.ref h0, .ref h1, .ref h2, .ref h3] (fun (w : va_W) (r : Option Value) => (w = [(h0, .inr (8, [.ref h1, .ref h2, .ref h3, .int (-1), .int 0, .int 0]))] ∧ r = none)) := by
  refine jj_startI hl (by decide) jw_872 (jj_le rfl) ?_
  intro p e s m args below meth c A hargs hA C hmn
  refine jj_aload_n C dX7_init_0 rfl ?_
  refine jj_objInit C jw_865 jw_1 jw_2 (jj_le rfl) (jj_le rfl) dX7_init_1 ?_
  refine jj_aload_n C dX7_init_4 rfl ?_
  refine jj_iconst (v := (-1)) C dX7_init_5 (by decide) ?_
  refine jj_put C jk_8 3 (by decide) jw_866 rfl 0 rfl rfl rfl rfl rfl dX7_init_6 ?_
  refine jj_aload_n C dX7_init_9 rfl ?_
  refine jj_iconst (v := 0) C dX7_init_10 (by decide) ?_
  refine jj_put C jk_8 4 (by decide) jw_867 rfl 0 rfl rfl rfl rfl rfl dX7_init_11 ?_
  refine jj_aload_n C dX7_init_14 rfl ?_
  refine jj_iconst (v := 0) C dX7_init_15 (by decide) ?_
  refine jj_put C jk_8 5 (by decide) jw_868 rfl 0 rfl rfl rfl rfl rfl dX7_init_16 ?_
  refine jj_aload_n C dX7_init_19 rfl ?_
  refine jj_aload_n C dX7_init_20 rfl ?_
  refine jj_putF C jk_8 0 (by decide) jw_869 rfl hmn rfl 0 rfl rfl rfl rfl rfl dX7_init_21 ?_
  refine jj_aload_n C dX7_init_24 rfl ?_
  refine jj_aload_n C dX7_init_25 rfl ?_
  refine jj_putF C jk_8 1 (by decide) jw_870 rfl hmn rfl 0 rfl rfl rfl rfl rfl dX7_init_26 ?_
  refine jj_aload_n C dX7_init_29 rfl ?_
  refine jj_aload_n C dX7_init_30 rfl ?_
  refine jj_putF C jk_8 2 (by decide) jw_871 rfl hmn rfl 0 rfl rfl rfl rfl rfl dX7_init_31 ?_
  exact jj_vretI C ⟨rfl, rfl⟩ dX7_init_34 (jj_le rfl) (jj_le rfl)


set_option maxHeartbeats 4000000 in
set_option maxRecDepth 100000 in
theorem ct_X0_copyFrom_2 {l : Launch} (hl : l.stackTraces = false) (D : va_G) (cA : Nat → ClassId) (ak : (Nat → Nat) × (Nat → Nat)) (h0 h1 h2 h3 h4 h5 h6 h7 h8 h9 : Nat) : jj_M l D cA ak yX0_copyFrom (.code yX0_copyFrom cX0_copyFrom 3 none) 0 0 0 0 [(h0, .inr (2, [.int 1, .int 0, .int 0, .int 0, .int 100, .int 0, .int 0, .int 0, .int 0, .int 0, .ref h2, .ref h4, .ref h5, .ref h6])), (h1, .inr (2, [.int 1, .int 0, .int 0, .int 0, .int 100, .int 0, .int 0, .int 0, .int 0, .int 0, .ref h3, .ref h7, .ref h8, .ref h9])), (h2, .inl (cA 2, 6, .inr (.inl (fun _ => 0)))), (h3, .inl (cA 2, 6, .inr (.inl (vp_updL (vp_updL (vp_updL (vp_updL (vp_updL (vp_updL (fun _ => 0) 0 0) 1 0) 2 0) 3 0) 4 0) 5 0))))] [.ref h0, .ref h1] (fun (w : va_W) (r : Option Value) => (w = [(h0, .inr (2, [.int 1, .int 0, .int 0, .int 0, .int 100, .int 0, .int 0, .int 0, .int 0, .int 0, .ref h2, .ref h4, .ref h5, .ref h6])), (h1, .inr (2, [.int 1, .int 0, .int 0, .int 0, .int 100, .int 0, .int 0, .int 0, .int 0, .int 0, .ref h3, .ref h7, .ref h8, .ref h9])), (h2, .inl (cA 2, 6, .inr (.inl (vp_updL (vp_updL (vp_updL (vp_updL (vp_updL (vp_updL (fun _ => 0) 0 0) 1 0) 2 0) 3 0) 4 0) 5 0)))), (h3, .inl (cA 2, 6, .inr (.inl (vp_updL (vp_updL (vp_updL (vp_updL (vp_updL (vp_updL (fun _ => 0) 0 0) 1 0) 2 0) 3 0) 4 0) 5 0))))] ∧ r = none)) jj_noX := by
  refine jj_start hl (by decide) jw_274 (jj_le rfl) ?_
  intro p e s m args below meth c A hargs hA C hex hmn
  refine jj_aload_n C dX0_copyFrom_0 rfl ?_
  refine jj_aload_n C dX0_copyFrom_1 rfl ?_
  refine jj_get C jk_2 0 (by decide) jw_59 1 rfl rfl dX0_copyFrom_2 ?_
  refine jj_put C jk_2 0 (by decide) jw_59 rfl 0 rfl rfl rfl rfl rfl dX0_copyFrom_5 ?_
  refine jj_aload_n C dX0_copyFrom_8 rfl ?_
  refine jj_aload_n C dX0_copyFrom_9 rfl ?_
  refine jj_get C jk_2 1 (by decide) jw_60 1 rfl rfl dX0_copyFrom_10 ?_
  refine jj_put C jk_2 1 (by decide) jw_60 rfl 0 rfl rfl rfl rfl rfl dX0_copyFrom_13 ?_
  refine jj_aload_n C dX0_copyFrom_16 rfl ?_
  refine jj_aload_n C dX0_copyFrom_17 rfl ?_
  refine jj_get C jk_2 2 (by decide) jw_61 1 rfl rfl dX0_copyFrom_18 ?_
  refine jj_put C jk_2 2 (by decide) jw_61 rfl 0 rfl rfl rfl rfl rfl dX0_copyFrom_21 ?_
  refine jj_aload_n C dX0_copyFrom_24 rfl ?_
  refine jj_aload_n C dX0_copyFrom_25 rfl ?_
  refine jj_get C jk_2 3 (by decide) jw_62 1 rfl rfl dX0_copyFrom_26 ?_
  refine jj_put C jk_2 3 (by decide) jw_62 rfl 0 rfl rfl rfl rfl rfl dX0_copyFrom_29 ?_
  refine jj_aload_n C dX0_copyFrom_32 rfl ?_
  refine jj_aload_n C dX0_copyFrom_33 rfl ?_
  refine jj_get C jk_2 4 (by decide) jw_63 1 rfl rfl dX0_copyFrom_34 ?_
  refine jj_put C jk_2 4 (by decide) jw_63 rfl 0 rfl rfl rfl rfl rfl dX0_copyFrom_37 ?_
  refine jj_aload_n C dX0_copyFrom_40 rfl ?_
  refine jj_aload_n C dX0_copyFrom_41 rfl ?_
  refine jj_get C jk_2 5 (by decide) jw_64 1 rfl rfl dX0_copyFrom_42 ?_
  refine jj_put C jk_2 5 (by decide) jw_64 rfl 0 rfl rfl rfl rfl rfl dX0_copyFrom_45 ?_
  refine jj_aload_n C dX0_copyFrom_48 rfl ?_
  refine jj_aload_n C dX0_copyFrom_49 rfl ?_
  refine jj_get C jk_2 6 (by decide) jw_65 1 rfl rfl dX0_copyFrom_50 ?_
  refine jj_put C jk_2 6 (by decide) jw_65 rfl 0 rfl rfl rfl rfl rfl dX0_copyFrom_53 ?_
  refine jj_aload_n C dX0_copyFrom_56 rfl ?_
  refine jj_aload_n C dX0_copyFrom_57 rfl ?_
  refine jj_get C jk_2 7 (by decide) jw_66 1 rfl rfl dX0_copyFrom_58 ?_
  refine jj_put C jk_2 7 (by decide) jw_66 rfl 0 rfl rfl rfl rfl rfl dX0_copyFrom_61 ?_
  refine jj_aload_n C dX0_copyFrom_64 rfl ?_
  refine jj_aload_n C dX0_copyFrom_65 rfl ?_
  refine jj_get C jk_2 8 (by decide) jw_67 1 rfl rfl dX0_copyFrom_66 ?_
  refine jj_put C jk_2 8 (by decide) jw_67 rfl 0 rfl rfl rfl rfl rfl dX0_copyFrom_69 ?_
  refine jj_aload_n C dX0_copyFrom_72 rfl ?_
  refine jj_aload_n C dX0_copyFrom_73 rfl ?_
  refine jj_get C jk_2 9 (by decide) jw_68 1 rfl rfl dX0_copyFrom_74 ?_
  refine jj_put C jk_2 9 (by decide) jw_68 rfl 0 rfl rfl rfl rfl rfl dX0_copyFrom_77 ?_
  refine jj_iconst (v := 0) C dX0_copyFrom_80 (by decide) ?_
  refine jj_istore_n C dX0_copyFrom_81 (by decide) rfl ?_
  refine jj_iload_n C dX0_copyFrom_82 rfl ?_
  refine jj_bipush (v := 6) C dX0_copyFrom_83 (by decide) ?_
  refine jj_icmp_geF (tgt := 106) C dX0_copyFrom_85 (by decide) (by decide) ?_
  refine jj_aload_n C dX0_copyFrom_88 rfl ?_
  refine jj_get C jk_2 10 (by decide) jw_70 0 rfl rfl dX0_copyFrom_89 ?_
  refine jj_iload_n C dX0_copyFrom_92 rfl ?_
  refine jj_aload_n C dX0_copyFrom_93 rfl ?_
  refine jj_get C jk_2 10 (by decide) jw_70 1 rfl rfl dX0_copyFrom_94 ?_
  refine jj_iload_n C dX0_copyFrom_97 rfl ?_
  refine jj_lald (v := 0) C 3 rfl (vp_in_iff.mpr (by decide)) rfl dX0_copyFrom_98 ?_
  refine jj_last C 2 rfl (vp_in_iff.mpr (by decide)) (g := (vp_updL (fun _ => 0) 0 0)) rfl rfl dX0_copyFrom_99 ?_
  refine jj_iinc (v := 1) C dX0_copyFrom_100 rfl (by decide) (by decide) rfl ?_
  refine jj_goto (tgt := 82) C dX0_copyFrom_103 (by decide) ?_
  refine jj_iload_n C dX0_copyFrom_82 rfl ?_
  refine jj_bipush (v := 6) C dX0_copyFrom_83 (by decide) ?_
  refine jj_icmp_geF (tgt := 106) C dX0_copyFrom_85 (by decide) (by decide) ?_
  refine jj_aload_n C dX0_copyFrom_88 rfl ?_
  refine jj_get C jk_2 10 (by decide) jw_70 0 rfl rfl dX0_copyFrom_89 ?_
  refine jj_iload_n C dX0_copyFrom_92 rfl ?_
  refine jj_aload_n C dX0_copyFrom_93 rfl ?_
  refine jj_get C jk_2 10 (by decide) jw_70 1 rfl rfl dX0_copyFrom_94 ?_
  refine jj_iload_n C dX0_copyFrom_97 rfl ?_
  refine jj_lald (v := 0) C 3 rfl (vp_in_iff.mpr (by decide)) rfl dX0_copyFrom_98 ?_
  refine jj_last C 2 rfl (vp_in_iff.mpr (by decide)) (g := (vp_updL (vp_updL (fun _ => 0) 0 0) 1 0)) rfl rfl dX0_copyFrom_99 ?_
  refine jj_iinc (v := 2) C dX0_copyFrom_100 rfl (by decide) (by decide) rfl ?_
  refine jj_goto (tgt := 82) C dX0_copyFrom_103 (by decide) ?_
  refine jj_iload_n C dX0_copyFrom_82 rfl ?_
  refine jj_bipush (v := 6) C dX0_copyFrom_83 (by decide) ?_
  refine jj_icmp_geF (tgt := 106) C dX0_copyFrom_85 (by decide) (by decide) ?_
  refine jj_aload_n C dX0_copyFrom_88 rfl ?_
  refine jj_get C jk_2 10 (by decide) jw_70 0 rfl rfl dX0_copyFrom_89 ?_
  refine jj_iload_n C dX0_copyFrom_92 rfl ?_
  refine jj_aload_n C dX0_copyFrom_93 rfl ?_
  refine jj_get C jk_2 10 (by decide) jw_70 1 rfl rfl dX0_copyFrom_94 ?_
  refine jj_iload_n C dX0_copyFrom_97 rfl ?_
  refine jj_lald (v := 0) C 3 rfl (vp_in_iff.mpr (by decide)) rfl dX0_copyFrom_98 ?_
  refine jj_last C 2 rfl (vp_in_iff.mpr (by decide)) (g := (vp_updL (vp_updL (vp_updL (fun _ => 0) 0 0) 1 0) 2 0)) rfl rfl dX0_copyFrom_99 ?_
  refine jj_iinc (v := 3) C dX0_copyFrom_100 rfl (by decide) (by decide) rfl ?_
  refine jj_goto (tgt := 82) C dX0_copyFrom_103 (by decide) ?_
  refine jj_iload_n C dX0_copyFrom_82 rfl ?_
  refine jj_bipush (v := 6) C dX0_copyFrom_83 (by decide) ?_
  refine jj_icmp_geF (tgt := 106) C dX0_copyFrom_85 (by decide) (by decide) ?_
  refine jj_aload_n C dX0_copyFrom_88 rfl ?_
  refine jj_get C jk_2 10 (by decide) jw_70 0 rfl rfl dX0_copyFrom_89 ?_
  refine jj_iload_n C dX0_copyFrom_92 rfl ?_
  refine jj_aload_n C dX0_copyFrom_93 rfl ?_
  refine jj_get C jk_2 10 (by decide) jw_70 1 rfl rfl dX0_copyFrom_94 ?_
  refine jj_iload_n C dX0_copyFrom_97 rfl ?_
  refine jj_lald (v := 0) C 3 rfl (vp_in_iff.mpr (by decide)) rfl dX0_copyFrom_98 ?_
  refine jj_last C 2 rfl (vp_in_iff.mpr (by decide)) (g := (vp_updL (vp_updL (vp_updL (vp_updL (fun _ => 0) 0 0) 1 0) 2 0) 3 0)) rfl rfl dX0_copyFrom_99 ?_
  refine jj_iinc (v := 4) C dX0_copyFrom_100 rfl (by decide) (by decide) rfl ?_
  refine jj_goto (tgt := 82) C dX0_copyFrom_103 (by decide) ?_
  refine jj_iload_n C dX0_copyFrom_82 rfl ?_
  refine jj_bipush (v := 6) C dX0_copyFrom_83 (by decide) ?_
  refine jj_icmp_geF (tgt := 106) C dX0_copyFrom_85 (by decide) (by decide) ?_
  refine jj_aload_n C dX0_copyFrom_88 rfl ?_
  refine jj_get C jk_2 10 (by decide) jw_70 0 rfl rfl dX0_copyFrom_89 ?_
  refine jj_iload_n C dX0_copyFrom_92 rfl ?_
  refine jj_aload_n C dX0_copyFrom_93 rfl ?_
  refine jj_get C jk_2 10 (by decide) jw_70 1 rfl rfl dX0_copyFrom_94 ?_
  refine jj_iload_n C dX0_copyFrom_97 rfl ?_
  refine jj_lald (v := 0) C 3 rfl (vp_in_iff.mpr (by decide)) rfl dX0_copyFrom_98 ?_
  refine jj_last C 2 rfl (vp_in_iff.mpr (by decide)) (g := (vp_updL (vp_updL (vp_updL (vp_updL (vp_updL (fun _ => 0) 0 0) 1 0) 2 0) 3 0) 4 0)) rfl rfl dX0_copyFrom_99 ?_
  refine jj_iinc (v := 5) C dX0_copyFrom_100 rfl (by decide) (by decide) rfl ?_
  refine jj_goto (tgt := 82) C dX0_copyFrom_103 (by decide) ?_
  refine jj_iload_n C dX0_copyFrom_82 rfl ?_
  refine jj_bipush (v := 6) C dX0_copyFrom_83 (by decide) ?_
  refine jj_icmp_geF (tgt := 106) C dX0_copyFrom_85 (by decide) (by decide) ?_
  refine jj_aload_n C dX0_copyFrom_88 rfl ?_
  refine jj_get C jk_2 10 (by decide) jw_70 0 rfl rfl dX0_copyFrom_89 ?_
  refine jj_iload_n C dX0_copyFrom_92 rfl ?_
  refine jj_aload_n C dX0_copyFrom_93 rfl ?_
  refine jj_get C jk_2 10 (by decide) jw_70 1 rfl rfl dX0_copyFrom_94 ?_
  refine jj_iload_n C dX0_copyFrom_97 rfl ?_
  refine jj_lald (v := 0) C 3 rfl (vp_in_iff.mpr (by decide)) rfl dX0_copyFrom_98 ?_
  refine jj_last C 2 rfl (vp_in_iff.mpr (by decide)) (g := (vp_updL (vp_updL (vp_updL (vp_updL (vp_updL (vp_updL (fun _ => 0) 0 0) 1 0) 2 0) 3 0) 4 0) 5 0)) rfl rfl dX0_copyFrom_99 ?_
  refine jj_iinc (v := 6) C dX0_copyFrom_100 rfl (by decide) (by decide) rfl ?_
  refine jj_goto (tgt := 82) C dX0_copyFrom_103 (by decide) ?_
  refine jj_iload_n C dX0_copyFrom_82 rfl ?_
  refine jj_bipush (v := 6) C dX0_copyFrom_83 (by decide) ?_
  refine jj_icmp_geT (tgt := 106) C dX0_copyFrom_85 (by decide) (by decide) ?_
  refine jj_iconst (v := 0) C dX0_copyFrom_106 (by decide) ?_
  refine jj_istore_n C dX0_copyFrom_107 (by decide) rfl ?_
  refine jj_iload_n C dX0_copyFrom_108 rfl ?_
  refine jj_aload_n C dX0_copyFrom_109 rfl ?_
  refine jj_get C jk_2 7 (by decide) jw_66 0 rfl rfl dX0_copyFrom_110 ?_
  refine jj_icmp_geT (tgt := 137) C dX0_copyFrom_113 (by decide) (by decide) ?_
  refine jj_iconst (v := 0) C dX0_copyFrom_137 (by decide) ?_
  refine jj_istore_n C dX0_copyFrom_138 (by decide) rfl ?_
  refine jj_iload_n C dX0_copyFrom_139 rfl ?_
  refine jj_aload_n C dX0_copyFrom_140 rfl ?_
  refine jj_get C jk_2 8 (by decide) jw_67 0 rfl rfl dX0_copyFrom_141 ?_
  refine jj_icmp_geT (tgt := 168) C dX0_copyFrom_144 (by decide) (by decide) ?_
  refine jj_iconst (v := 0) C dX0_copyFrom_168 (by decide) ?_
  refine jj_istore_n C dX0_copyFrom_169 (by decide) rfl ?_
  refine jj_iload_n C dX0_copyFrom_170 rfl ?_
  refine jj_aload_n C dX0_copyFrom_171 rfl ?_
  refine jj_get C jk_2 9 (by decide) jw_68 0 rfl rfl dX0_copyFrom_172 ?_
  refine jj_icmp_geT (tgt := 199) C dX0_copyFrom_175 (by decide) (by decide) ?_
  exact jj_vret C ⟨rfl, rfl⟩ dX0_copyFrom_199 (jj_le rfl) (jj_le rfl)


set_option maxHeartbeats 4000000 in
set_option maxRecDepth 100000 in
theorem ct_X10_runScript_1 {l : Launch} (hl : l.stackTraces = false) (D : va_G) (cA : Nat → ClassId) (ak : (Nat → Nat) × (Nat → Nat)) (h0 h1 h2 h3 h4 h5 h6 h7 h8 h9 h10 h11 h12 h13 h14 h15 : Nat) : jj_M l D cA ak yX10_runScript (.code yX10_runScript cX10_runScript 4 (some .int)) 4 73 64 414 [(h0, .inr (11, [.ref h1, .int 0, .int (-1), .ref h2, .ref h3, .ref h7, .ref h4, .int 0, .int 0, .ref h8])), (h1, .inr (10, [.ref h9, .int 0, .int 0, .int 0, .int 0, .int 0, .int (-1)])), (h2, .inr (2, [.int 1, .int 0, .int 0, .int 0, .int 100, .int 0, .int 0, .int 0, .int 0, .int 0, .ref h5, .ref h10, .ref h11, .ref h12])), (h3, .inr (2, [.int 1, .int 0, .int 0, .int 0, .int 100, .int 0, .int 0, .int 0, .int 0, .int 0, .ref h6, .ref h13, .ref h14, .ref h15])), (h4, .inl (cA 5, 10, .inr (.inr (.inr (.inr (fun _ => none)))))), (h5, .inl (cA 2, 6, .inr (.inl (fun _ => 0)))), (h6, .inl (cA 2, 6, .inr (.inl (fun _ => 0))))] [.ref h0] (fun (w : va_W) (r : Option Value) => (r = some (.int 0))) jj_noX := by
  refine jj_start hl (by decide) jw_878 (jj_le rfl) ?_
  intro p e s m args below meth c A hargs hA C hex hmn
  refine jj_aload_n C dX10_runScript_0 rfl ?_
  refine jj_get C jk_11 0 (by decide) jw_26 0 rfl rfl dX10_runScript_1 ?_
  refine jq_callV (rest := []) C (ct_X9_takeBuffer_1 hl D cA ak h1 h9) [1] [0, 2, 3, 4, 5, 6] rfl rfl (by decide) (by decide) (by decide) 0 rfl rfl rfl jw_630 jw_631 jw_632 jw_13 jw_629 jn_X9_takeBuffer rfl (jj_le rfl) (jj_le rfl) (jj_le rfl) (jj_le rfl) (jj_le rfl) dX10_runScript_4 rfl (fun _ _ hX => hX.elim) (fun w1 r O_2 => ?_)
  obtain ⟨rfl, rfl⟩ := O_2
  refine jj_apd rfl ?_
  refine jj_aload_n C dX10_runScript_7 rfl ?_
  refine jj_get C jk_11 4 (by decide) jw_136 0 rfl rfl dX10_runScript_8 ?_
  refine jj_aload_n C dX10_runScript_11 rfl ?_
  refine jj_get C jk_11 3 (by decide) jw_135 0 rfl rfl dX10_runScript_12 ?_
  refine jq_callV (rest := []) C (ct_X0_copyFrom_1 hl D cA ak h3 h2 h6 h5 h13 h14 h15 h10 h11 h12) [2, 1, 5, 4] [0, 3, 6] rfl rfl (by decide) (by decide) (by decide) 0 rfl rfl rfl jw_275 jw_276 jw_277 jw_57 jw_274 jn_X0_copyFrom rfl (jj_le rfl) (jj_le rfl) (jj_le rfl) (jj_le rfl) (jj_le rfl) dX10_runScript_15 rfl (fun _ _ hX => hX.elim) (fun w1 r O_4 => ?_)
  obtain ⟨rfl, rfl⟩ := O_4
  refine jj_apd rfl ?_
  refine jj_new (wt := []) C jk_8 jw_862 jw_863 jw_864 jd_8 (jj_le rfl) (jj_le rfl) dX10_runScript_18 (fun q_5 => ?_)
  refine jj_apd rfl ?_
  refine jj_dup C dX10_runScript_21 rfl ?_
  refine jj_aload_n C dX10_runScript_22 rfl ?_
  refine jj_get C jk_11 0 (by decide) jw_26 0 rfl rfl dX10_runScript_23 ?_
  refine jj_aload_n C dX10_runScript_26 rfl ?_
  refine jj_get C jk_11 4 (by decide) jw_136 0 rfl rfl dX10_runScript_27 ?_
  refine jj_aload_n C dX10_runScript_30 rfl ?_
  refine jj_get C jk_11 5 (by decide) jw_159 0 rfl rfl dX10_runScript_31 ?_
  refine jq_callI (rest := [.ref q_5]) C (ct_X7_init_1 hl D cA ak q_5 h1 h3 h7) [7] [0, 1, 2, 3, 4, 5, 6] rfl rfl (by decide) (by decide) (by decide) jw_873 jw_874 jw_864 jw_872 rfl jn_X7_init rfl (jj_le rfl) (jj_le rfl) (jj_le rfl) (jj_le rfl) (jj_le rfl) dX10_runScript_34 rfl (fun w1 r O_7 => ?_)
  obtain ⟨rfl, rfl⟩ := O_7
  refine jj_apd rfl ?_
  refine jj_astore_n C dX10_runScript_37 (by decide) rfl ?_
  refine jj_iconst (v := 0) C dX10_runScript_38 (by decide) ?_
  refine jj_istore_n C dX10_runScript_39 (by decide) rfl ?_
  refine jj_aload_n C dX10_runScript_40 rfl ?_
  refine jj_get C jk_11 0 (by decide) jw_26 0 rfl rfl dX10_runScript_41 ?_
  refine jq_callV (rest := []) C (ct_X9_advance_1 hl D cA ak h1 h9) [2] [0, 1, 3, 4, 5, 6, 7] rfl rfl (by decide) (by decide) (by decide) 0 rfl rfl rfl jw_876 jw_656 jw_657 jw_13 jw_654 jn_X9_advance rfl (jj_le rfl) (jj_le rfl) (jj_le rfl) (jj_le rfl) (jj_le rfl) dX10_runScript_44 rfl (fun _ _ hX => hX.elim) (fun w1 r O_9 => ?_)
  obtain ⟨rfl, rfl⟩ := O_9
  refine jj_apd rfl ?_
  refine jj_aload_n C dX10_runScript_47 rfl ?_
  refine jj_get C jk_11 0 (by decide) jw_26 0 rfl rfl dX10_runScript_48 ?_
  refine jj_get C jk_10 5 (by decide) jw_877 7 rfl rfl dX10_runScript_51 ?_
  refine jj_if_eqT (tgt := 113) C dX10_runScript_54 (by decide) (by decide) ?_
  refine jj_aload_n C dX10_runScript_113 rfl ?_
  refine jq_callV (rest := []) C (ct_X10_remember_1 hl D cA ak h0 h2 h4 h5 h1 h3 h7 h8 h10 h11 h12) [0, 3, 1, 5] [2, 4, 6, 7] rfl rfl (by decide) (by decide) (by decide) 0 rfl rfl rfl jw_280 jw_281 jw_282 jw_271 jw_279 jn_X10_remember rfl (jj_le rfl) (jj_le rfl) (jj_le rfl) (jj_le rfl) (jj_le rfl) dX10_runScript_114 rfl (fun _ _ hX => hX.elim) (fun w1 r O_11 => ?_)
  obtain ⟨q_12, q_13, q_14, q_15, q_16, q_17, f_18, c_19, rfl, rfl⟩ := O_11
  refine jj_apd rfl ?_
  refine jj_aload_n C dX10_runScript_117 rfl ?_
  refine jj_get C jk_11 3 (by decide) jw_135 4 rfl rfl dX10_runScript_118 ?_
  refine jj_aload_n C dX10_runScript_121 rfl ?_
  refine jj_get C jk_11 4 (by decide) jw_136 4 rfl rfl dX10_runScript_122 ?_
  refine jq_callV (rest := []) C (ct_X0_copyFrom_2 hl D cA ak h2 h3 h5 h6 h10 h11 h12 h13 h14 h15) [9, 0, 11, 1] [2, 3, 4, 5, 6, 7, 8, 10] rfl rfl (by decide) (by decide) (by decide) 0 rfl rfl rfl jw_275 jw_276 jw_277 jw_57 jw_274 jn_X0_copyFrom rfl (jj_le rfl) (jj_le rfl) (jj_le rfl) (jj_le rfl) (jj_le rfl) dX10_runScript_125 rfl (fun _ _ hX => hX.elim) (fun w1 r O_21 => ?_)
  obtain ⟨rfl, rfl⟩ := O_21
  refine jj_apd rfl ?_
  refine jj_iload_n C dX10_runScript_128 rfl ?_
  exact jj_iret C rfl dX10_runScript_129 (jj_le rfl) (jj_le rfl)


set_option maxHeartbeats 4000000 in
set_option maxRecDepth 100000 in
theorem ct_X11_runScript_1 {l : Launch} (hl : l.stackTraces = false) (D : va_G) (cA : Nat → ClassId) (ak : (Nat → Nat) × (Nat → Nat)) (h0 h1 h2 h3 h4 h5 h6 h7 h8 h9 h10 h11 h12 : Nat) : jj_M l D cA ak yX11_runScript (.code yX11_runScript cX11_runScript 5 (some .int)) 3 65 0 0 [(h0, .inr (12, [.ref h1, .ref h2, .ref h4, .ref h5, .ref h6, .ref h3, .int 0, .int 0, .long 0, .long 0, .ref h7, .ref h8, .ref h9, .int 0, .int 0, .int 0, .int 0, .int 0, .int (-1), .int 0, .int 0, .ref h10, .ref h11, .ref h12, .int 0])), (h1, .inl (cA 2, 334, .inr (.inl (vp_updL (vp_updL (fun _ => 0) 0 1) 4 100)))), (h2, .inl (cA 2, 334, .inr (.inl (fun _ => 0)))), (h3, .inl (cA 2, 3340, .inr (.inl (fun _ => 0))))] [.ref h0] (fun (w : va_W) (r : Option Value) => (∃ (f_7 : Nat → Int64), w = [(h1, .inl (cA 2, 334, .inr (.inl (vp_updL (vp_updL (fun _ => 0) 0 1) 4 100)))), (h0, .inr (12, [.ref h1, .ref h2, .ref h4, .ref h5, .ref h6, .ref h3, .int 1, .int 0, .long 0, .long 0, .ref h7, .ref h8, .ref h9, .int 0, .int 0, .int 0, .int 0, .int 0, .int (-1), .int 0, .int 0, .ref h10, .ref h11, .ref h12, .int 0])), (h2, .inl (cA 2, 334, .inr (.inl (jj_cpy (vp_updL (vp_updL (fun _ => 0) 0 1) 4 100) (fun _ => 0) 334)))), (h3, .inl (cA 2, 3340, .inr (.inl f_7)))] ∧ r = some (.int 0))) jj_noX := by
  refine jj_start hl (by decide) jw_879 (jj_le rfl) ?_
  intro p e s m args below meth c A hargs hA C hex hmn
  refine jj_aload_n C dX11_runScript_0 rfl ?_
  refine jj_iconst (v := 0) C dX11_runScript_1 (by decide) ?_
  refine jj_put C jk_12 7 (by decide) jw_236 rfl 0 rfl rfl rfl rfl rfl dX11_runScript_2 ?_
  refine jj_aload_n C dX11_runScript_5 rfl ?_
  refine jj_get C jk_12 17 (by decide) jw_689 0 rfl rfl dX11_runScript_6 ?_
  refine jj_istore_n C dX11_runScript_9 (by decide) rfl ?_
  refine jj_aload_n C dX11_runScript_10 rfl ?_
  refine jj_get C jk_12 18 (by decide) jw_217 0 rfl rfl dX11_runScript_11 ?_
  refine jj_istore_n C dX11_runScript_14 (by decide) rfl ?_
  refine jj_aload_n C dX11_runScript_15 rfl ?_
  refine jj_get C jk_12 0 (by decide) jw_181 0 rfl rfl dX11_runScript_16 ?_
  refine jj_aload_n C dX11_runScript_19 rfl ?_
  refine jj_get C jk_12 1 (by decide) jw_208 0 rfl rfl dX11_runScript_20 ?_
  refine jq_callS (rest := []) C (ct_X11_copy_1 hl D cA ak h1 h2 (vp_updL (vp_updL (fun _ => 0) 0 1) 4 100) (fun _ => 0)) [1, 2] [0, 3] rfl rfl (by decide) (by decide) (by decide) jw_327 jw_328 jw_224 jw_326 jn_X11_copy rfl (jj_le rfl) (jj_le rfl) (jj_le rfl) (jj_le rfl) (jj_le rfl) dX11_runScript_23 rfl (fun _ _ hX => hX.elim) (fun w1 r O_2 => ?_)
  obtain ⟨rfl, rfl⟩ := O_2
  refine jj_apd rfl ?_
  refine jj_aload_n C dX11_runScript_26 rfl ?_
  refine jq_callV (rest := []) C (ct_X11_begin_1 hl D cA ak h0 h1 h2 h4 h5 h6 h3 h7 h8 h9 h10 h11 h12) [0] [1, 2, 3] rfl rfl (by decide) (by decide) (by decide) 0 rfl rfl rfl jw_706 jw_707 jw_708 jw_224 jw_705 jn_X11_begin rfl (jj_le rfl) (jj_le rfl) (jj_le rfl) (jj_le rfl) (jj_le rfl) dX11_runScript_27 rfl (fun _ _ hX => hX.elim) (fun w1 r O_4 => ?_)
  obtain ⟨rfl, rfl⟩ := O_4
  refine jj_apd rfl ?_
  refine jj_iconst (v := 0) C dX11_runScript_30 (by decide) ?_
  refine jj_istore_n C dX11_runScript_31 (by decide) rfl ?_
  refine jj_aload_n C dX11_runScript_32 rfl ?_
  refine jj_get C jk_12 17 (by decide) jw_689 3 rfl rfl dX11_runScript_33 ?_
  refine jj_if_neF (tgt := 64) C dX11_runScript_36 (by decide) (by decide) ?_
  refine jj_aload_n C dX11_runScript_39 rfl ?_
  refine jj_get C jk_12 14 (by decide) jw_690 3 rfl rfl dX11_runScript_40 ?_
  refine jj_aload_n C dX11_runScript_43 rfl ?_
  refine jj_get C jk_12 16 (by decide) jw_687 3 rfl rfl dX11_runScript_44 ?_
  refine jj_icmp_geT (tgt := 64) C dX11_runScript_47 (by decide) (by decide) ?_
  refine jj_aload_n C dX11_runScript_64 rfl ?_
  refine jj_get C jk_12 17 (by decide) jw_689 3 rfl rfl dX11_runScript_65 ?_
  refine jj_if_neF (tgt := 75) C dX11_runScript_68 (by decide) (by decide) ?_
  refine jj_iload_n C dX11_runScript_71 rfl ?_
  refine jj_goto (tgt := 81) C dX11_runScript_72 (by decide) ?_
  refine jj_istore C dX11_runScript_81 (by decide) rfl ?_
  refine jj_aload_n C dX11_runScript_83 rfl ?_
  refine jj_get C jk_12 17 (by decide) jw_689 3 rfl rfl dX11_runScript_84 ?_
  refine jj_if_neF (tgt := 97) C dX11_runScript_87 (by decide) (by decide) ?_
  refine jj_aload_n C dX11_runScript_90 rfl ?_
  refine jq_callV (rest := []) C (ct_X11_push_1 hl D cA ak h0 h2 h3 h1 h4 h5 h6 h7 h8 h9 h10 h11 h12) [3, 2, 0] [1] rfl rfl (by decide) (by decide) (by decide) 0 rfl rfl rfl jw_332 jw_333 jw_334 jw_224 jw_331 jn_X11_push rfl (jj_le rfl) (jj_le rfl) (jj_le rfl) (jj_le rfl) (jj_le rfl) dX11_runScript_91 rfl (fun _ _ hX => hX.elim) (fun w1 r O_6 => ?_)
  obtain ⟨f_7, rfl, rfl⟩ := O_6
  refine jj_apd rfl ?_
  refine jj_goto (tgt := 108) C dX11_runScript_94 (by decide) ?_
  refine jj_aload_n C dX11_runScript_108 rfl ?_
  refine jj_iload_n C dX11_runScript_109 rfl ?_
  refine jj_put C jk_12 17 (by decide) jw_689 rfl 1 rfl rfl rfl rfl rfl dX11_runScript_110 ?_
  refine jj_aload_n C dX11_runScript_113 rfl ?_
  refine jj_iload_n C dX11_runScript_114 rfl ?_
  refine jj_put C jk_12 18 (by decide) jw_217 rfl 1 rfl rfl rfl rfl rfl dX11_runScript_115 ?_
  refine jj_iload C dX11_runScript_118 rfl ?_
  exact jj_iret C ⟨f_7, rfl, rfl⟩ dX11_runScript_120 (jj_le rfl) (jj_le rfl)


set_option maxHeartbeats 4000000 in
set_option maxRecDepth 100000 in
theorem ct_X10_netAssets_1 {l : Launch} (hl : l.stackTraces = false) (D : va_G) (cA : Nat → ClassId) (ak : (Nat → Nat) × (Nat → Nat)) (h0 h1 h2 h3 h4 h5 h6 h7 h8 h9 h10 : Nat) : jj_M l D cA ak yX10_netAssets (.code yX10_netAssets cX10_netAssets 1 (some .long)) 1 23 0 0 [(h0, .inr (11, [.ref h2, .int 0, .int (-1), .ref h1, .ref h3, .ref h4, .ref h5, .int 0, .int 0, .ref h6])), (h1, .inr (2, [.int 1, .int 0, .int 0, .int 0, .int 100, .int 0, .int 0, .int 0, .int 0, .int 0, .ref h7, .ref h8, .ref h9, .ref h10]))] [.ref h0] (fun (w : va_W) (r : Option Value) => (r = some (.long 0))) jj_noX := by
  refine jj_start hl (by decide) jw_880 (jj_le rfl) ?_
  intro p e s m args below meth c A hargs hA C hex hmn
  refine jj_aload_n C dX10_netAssets_0 rfl ?_
  refine jj_get C jk_11 3 (by decide) jw_135 0 rfl rfl dX10_netAssets_1 ?_
  refine jq_callV (rest := []) C (ct_X0_netOfAll_1 hl D cA ak h1 h7 h8 h9 h10) [1] [0] rfl rfl (by decide) (by decide) (by decide) 0 rfl rfl rfl jw_610 jw_611 jw_612 jw_57 jw_609 jn_X0_netOfAll rfl (jj_le rfl) (jj_le rfl) (jj_le rfl) (jj_le rfl) (jj_le rfl) dX10_netAssets_4 rfl (fun _ _ hX => hX.elim) (fun w1 r O_2 => ?_)
  obtain ⟨rfl, rfl⟩ := O_2
  refine jj_apd rfl ?_
  exact jj_lret C rfl dX10_netAssets_7 (jj_le rfl) (jj_le rfl)


set_option maxHeartbeats 4000000 in
set_option maxRecDepth 100000 in
theorem ct_X11_netAssets_1 {l : Launch} (hl : l.stackTraces = false) (D : va_G) (cA : Nat → ClassId) (ak : (Nat → Nat) × (Nat → Nat)) (h0 h1 h2 h3 h4 h5 h6 h7 h8 h9 h10 h11 h12 : Nat) : jj_M l D cA ak yX11_netAssets (.code yX11_netAssets cX11_netAssets 1 (some .long)) 1 23 0 0 [(h0, .inr (12, [.ref h1, .ref h2, .ref h3, .ref h4, .ref h5, .ref h6, .int 0, .int 0, .long 0, .long 0, .ref h7, .ref h8, .ref h9, .int 0, .int 0, .int 0, .int 0, .int 0, .int (-1), .int 0, .int 0, .ref h10, .ref h11, .ref h12, .int 0])), (h1, .inl (cA 2, 334, .inr (.inl (vp_updL (vp_updL (fun _ => 0) 0 1) 4 100))))] [.ref h0] (fun (w : va_W) (r : Option Value) => (w = [(h0, .inr (12, [.ref h1, .ref h2, .ref h3, .ref h4, .ref h5, .ref h6, .int 0, .int 0, .long 0, .long 0, .ref h7, .ref h8, .ref h9, .int 0, .int 0, .int 0, .int 0, .int 0, .int (-1), .int 0, .int 0, .ref h10, .ref h11, .ref h12, .int 0])), (h1, .inl (cA 2, 334, .inr (.inl (vp_updL (vp_updL (fun _ => 0) 0 1) 4 100))))] ∧ r = some (.long 0))) jj_noX := by
  refine jj_start hl (by decide) jw_881 (jj_le rfl) ?_
  intro p e s m args below meth c A hargs hA C hex hmn
  refine jj_aload_n C dX11_netAssets_0 rfl ?_
  refine jj_iconst (v := 0) C dX11_netAssets_1 (by decide) ?_
  refine jj_put C jk_12 7 (by decide) jw_236 rfl 0 rfl rfl rfl rfl rfl dX11_netAssets_2 ?_
  refine jj_aload_n C dX11_netAssets_5 rfl ?_
  refine jq_callV (rest := []) C (ct_X11_netAll_1 hl D cA ak h0 h1 h2 h3 h4 h5 h6 h7 h8 h9 h10 h11 h12) [0, 1] [] rfl rfl (by decide) (by decide) (by decide) 0 rfl rfl rfl jw_616 jw_617 jw_618 jw_224 jw_615 jn_X11_netAll rfl (jj_le rfl) (jj_le rfl) (jj_le rfl) (jj_le rfl) (jj_le rfl) dX11_netAssets_6 rfl (fun _ _ hX => hX.elim) (fun w1 r O_2 => ?_)
  obtain ⟨rfl, rfl⟩ := O_2
  refine jj_apd rfl ?_
  exact jj_lret C ⟨rfl, rfl⟩ dX11_netAssets_9 (jj_le rfl) (jj_le rfl)


set_option maxHeartbeats 4000000 in
set_option maxRecDepth 100000 in
theorem ct_X10_requestedValue_1 {l : Launch} (hl : l.stackTraces = false) (D : va_G) (cA : Nat → ClassId) (ak : (Nat → Nat) × (Nat → Nat)) (h0 h1 h2 h3 h4 h5 h6 h7 h8 h9 h10 h11 : Nat) : jj_M l D cA ak yX10_requestedValue (.code yX10_requestedValue cX10_requestedValue 1 (some .long)) 1 25 0 0 [(h0, .inr (11, [.ref h3, .int 0, .int (-1), .ref h1, .ref h4, .ref h2, .ref h5, .int 0, .int 0, .ref h6])), (h1, .inr (2, [.int 1, .int 0, .int 0, .int 0, .int 100, .int 0, .int 0, .int 0, .int 0, .int 0, .ref h7, .ref h8, .ref h9, .ref h10])), (h2, .inr (3, [.ref h11, .long 0, .long 0, .long 0, .long 0, .long 0]))] [.ref h0] (fun (w : va_W) (r : Option Value) => (r = some (.long 0))) jj_noX := by
  refine jj_start hl (by decide) jw_883 (jj_le rfl) ?_
  intro p e s m args below meth c A hargs hA C hex hmn
  refine jj_aload_n C dX10_requestedValue_0 rfl ?_
  refine jj_get C jk_11 5 (by decide) jw_159 0 rfl rfl dX10_requestedValue_1 ?_
  refine jj_aload_n C dX10_requestedValue_4 rfl ?_
  refine jj_get C jk_11 3 (by decide) jw_135 0 rfl rfl dX10_requestedValue_5 ?_
  refine jq_callV (rest := []) C (ct_X1_baseOfRedemptions_1 hl D cA ak h2 h1 h11 h7 h8 h9 h10) [2, 1] [0] rfl rfl (by decide) (by decide) (by decide) 0 rfl rfl rfl jw_882 jw_764 jw_765 jw_146 jw_762 jn_X1_baseOfRedemptions rfl (jj_le rfl) (jj_le rfl) (jj_le rfl) (jj_le rfl) (jj_le rfl) dX10_requestedValue_8 rfl (fun _ _ hX => hX.elim) (fun w1 r O_2 => ?_)
  obtain ⟨rfl, rfl⟩ := O_2
  refine jj_apd rfl ?_
  exact jj_lret C rfl dX10_requestedValue_11 (jj_le rfl) (jj_le rfl)


set_option maxHeartbeats 4000000 in
set_option maxRecDepth 100000 in
theorem ct_X11_requested_2 {l : Launch} (hl : l.stackTraces = false) (D : va_G) (cA : Nat → ClassId) (ak : (Nat → Nat) × (Nat → Nat)) (h0 h1 h2 h3 h4 h5 h6 h7 h8 h9 h10 h11 h12 : Nat) : jj_M l D cA ak yX11_requested (.code yX11_requested cX11_requested 4 (some .long)) 0 0 0 0 [(h0, .inr (12, [.ref h1, .ref h2, .ref h3, .ref h4, .ref h5, .ref h6, .int 0, .int 0, .long 0, .long 0, .ref h7, .ref h8, .ref h9, .int 0, .int 0, .int 0, .int 0, .int 0, .int (-1), .int 0, .int 0, .ref h10, .ref h11, .ref h12, .int 0])), (h1, .inl (cA 2, 334, .inr (.inl (vp_updL (vp_updL (fun _ => 0) 0 1) 4 100))))] [.ref h0] (fun (w : va_W) (r : Option Value) => (w = [(h0, .inr (12, [.ref h1, .ref h2, .ref h3, .ref h4, .ref h5, .ref h6, .int 0, .int 0, .long 0, .long 0, .ref h7, .ref h8, .ref h9, .int 0, .int 0, .int 0, .int 0, .int 0, .int (-1), .int 0, .int 0, .ref h10, .ref h11, .ref h12, .int 0])), (h1, .inl (cA 2, 334, .inr (.inl (vp_updL (vp_updL (fun _ => 0) 0 1) 4 100))))] ∧ r = some (.long 0))) jj_noX := by
  refine jj_start hl (by decide) jw_796 (jj_le rfl) ?_
  intro p e s m args below meth c A hargs hA C hex hmn
  refine jj_lconst (v := 0) C dX11_requested_0 (by decide) ?_
  refine jj_lstore_n C dX11_requested_1 (by decide) rfl ?_
  refine jj_iconst (v := 0) C dX11_requested_2 (by decide) ?_
  refine jj_istore_n C dX11_requested_3 (by decide) rfl ?_
  refine jj_iload_n C dX11_requested_4 rfl ?_
  refine jj_i2l (v := 0) C dX11_requested_5 (by decide) ?_
  refine jj_aload_n C dX11_requested_6 rfl ?_
  refine jj_get C jk_12 0 (by decide) jw_181 0 rfl rfl dX11_requested_7 ?_
  refine jj_bipush (v := 8) C dX11_requested_10 (by decide) ?_
  refine jj_lald (v := 0) C 1 rfl (vp_in_iff.mpr (by decide)) rfl dX11_requested_12 ?_
  refine jj_lcmp_geT (tgt := 43) C dX11_requested_13 dX11_requested_14 (by decide) (by decide) ?_
  refine jj_lload_n C dX11_requested_43 rfl ?_
  exact jj_lret C ⟨rfl, rfl⟩ dX11_requested_44 (jj_le rfl) (jj_le rfl)


set_option maxHeartbeats 4000000 in
set_option maxRecDepth 100000 in
theorem ct_X11_requestedValue_1 {l : Launch} (hl : l.stackTraces = false) (D : va_G) (cA : Nat → ClassId) (ak : (Nat → Nat) × (Nat → Nat)) (h0 h1 h2 h3 h4 h5 h6 h7 h8 h9 h10 h11 h12 : Nat) : jj_M l D cA ak yX11_requestedValue (.code yX11_requestedValue cX11_requestedValue 1 (some .long)) 1 23 0 0 [(h0, .inr (12, [.ref h1, .ref h2, .ref h3, .ref h4, .ref h5, .ref h6, .int 0, .int 0, .long 0, .long 0, .ref h7, .ref h8, .ref h9, .int 0, .int 0, .int 0, .int 0, .int 0, .int (-1), .int 0, .int 0, .ref h10, .ref h11, .ref h12, .int 0])), (h1, .inl (cA 2, 334, .inr (.inl (vp_updL (vp_updL (fun _ => 0) 0 1) 4 100))))] [.ref h0] (fun (w : va_W) (r : Option Value) => (w = [(h0, .inr (12, [.ref h1, .ref h2, .ref h3, .ref h4, .ref h5, .ref h6, .int 0, .int 0, .long 0, .long 0, .ref h7, .ref h8, .ref h9, .int 0, .int 0, .int 0, .int 0, .int 0, .int (-1), .int 0, .int 0, .ref h10, .ref h11, .ref h12, .int 0])), (h1, .inl (cA 2, 334, .inr (.inl (vp_updL (vp_updL (fun _ => 0) 0 1) 4 100))))] ∧ r = some (.long 0))) jj_noX := by
  refine jj_start hl (by decide) jw_884 (jj_le rfl) ?_
  intro p e s m args below meth c A hargs hA C hex hmn
  refine jj_aload_n C dX11_requestedValue_0 rfl ?_
  refine jj_iconst (v := 0) C dX11_requestedValue_1 (by decide) ?_
  refine jj_put C jk_12 7 (by decide) jw_236 rfl 0 rfl rfl rfl rfl rfl dX11_requestedValue_2 ?_
  refine jj_aload_n C dX11_requestedValue_5 rfl ?_
  refine jq_callV (rest := []) C (ct_X11_requested_2 hl D cA ak h0 h1 h2 h3 h4 h5 h6 h7 h8 h9 h10 h11 h12) [0, 1] [] rfl rfl (by decide) (by decide) (by decide) 0 rfl rfl rfl jw_797 jw_798 jw_799 jw_224 jw_796 jn_X11_requested rfl (jj_le rfl) (jj_le rfl) (jj_le rfl) (jj_le rfl) (jj_le rfl) dX11_requestedValue_6 rfl (fun _ _ hX => hX.elim) (fun w1 r O_2 => ?_)
  obtain ⟨rfl, rfl⟩ := O_2
  refine jj_apd rfl ?_
  exact jj_lret C ⟨rfl, rfl⟩ dX11_requestedValue_9 (jj_le rfl) (jj_le rfl)


set_option maxHeartbeats 4000000 in
set_option maxRecDepth 100000 in
theorem ct_X10_gateLimit_1 {l : Launch} (hl : l.stackTraces = false) (D : va_G) (cA : Nat → ClassId) (ak : (Nat → Nat) × (Nat → Nat)) (h0 h1 h2 h3 h4 h5 h6 h7 h8 h9 h10 : Nat) : jj_M l D cA ak yX10_gateLimit (.code yX10_gateLimit cX10_gateLimit 1 (some .long)) 2 43 0 0 [(h0, .inr (11, [.ref h2, .int 0, .int (-1), .ref h1, .ref h3, .ref h4, .ref h5, .int 0, .int 0, .ref h6])), (h1, .inr (2, [.int 1, .int 0, .int 0, .int 0, .int 100, .int 0, .int 0, .int 0, .int 0, .int 0, .ref h7, .ref h8, .ref h9, .ref h10]))] [.ref h0] (fun (w : va_W) (r : Option Value) => (r = some (.long 0))) jj_noX := by
  refine jj_start hl (by decide) jw_886 (jj_le rfl) ?_
  intro p e s m args below meth c A hargs hA C hex hmn
  refine jj_aload_n C dX10_gateLimit_0 rfl ?_
  refine jj_get C jk_11 3 (by decide) jw_135 0 rfl rfl dX10_gateLimit_1 ?_
  refine jq_callV (rest := []) C (ct_X0_limitOfGate_1 hl D cA ak h1 h7 h8 h9 h10) [1] [0] rfl rfl (by decide) (by decide) (by decide) 0 rfl rfl rfl jw_885 jw_771 jw_772 jw_57 jw_769 jn_X0_limitOfGate rfl (jj_le rfl) (jj_le rfl) (jj_le rfl) (jj_le rfl) (jj_le rfl) dX10_gateLimit_4 rfl (fun _ _ hX => hX.elim) (fun w1 r O_2 => ?_)
  obtain ⟨rfl, rfl⟩ := O_2
  refine jj_apd rfl ?_
  exact jj_lret C rfl dX10_gateLimit_7 (jj_le rfl) (jj_le rfl)


set_option maxHeartbeats 4000000 in
set_option maxRecDepth 100000 in
theorem ct_X11_limit_2 {l : Launch} (hl : l.stackTraces = false) (D : va_G) (cA : Nat → ClassId) (ak : (Nat → Nat) × (Nat → Nat)) (h0 h1 h2 h3 h4 h5 h6 h7 h8 h9 h10 h11 h12 : Nat) : jj_M l D cA ak yX11_limit (.code yX11_limit cX11_limit 1 (some .long)) 1 23 0 0 [(h0, .inr (12, [.ref h1, .ref h2, .ref h3, .ref h4, .ref h5, .ref h6, .int 0, .int 0, .long 0, .long 0, .ref h7, .ref h8, .ref h9, .int 0, .int 0, .int 0, .int 0, .int 0, .int (-1), .int 0, .int 0, .ref h10, .ref h11, .ref h12, .int 0])), (h1, .inl (cA 2, 334, .inr (.inl (vp_updL (vp_updL (fun _ => 0) 0 1) 4 100))))] [.ref h0] (fun (w : va_W) (r : Option Value) => (w = [(h0, .inr (12, [.ref h1, .ref h2, .ref h3, .ref h4, .ref h5, .ref h6, .int 0, .int 0, .long 0, .long 0, .ref h7, .ref h8, .ref h9, .int 0, .int 0, .int 0, .int 0, .int 0, .int (-1), .int 0, .int 0, .ref h10, .ref h11, .ref h12, .int 0])), (h1, .inl (cA 2, 334, .inr (.inl (vp_updL (vp_updL (fun _ => 0) 0 1) 4 100))))] ∧ r = some (.long 0))) jj_noX := by
  refine jj_start hl (by decide) jw_801 (jj_le rfl) ?_
  intro p e s m args below meth c A hargs hA C hex hmn
  refine jj_aload_n C dX11_limit_0 rfl ?_
  refine jq_callV (rest := []) C (ct_X11_netAll_1 hl D cA ak h0 h1 h2 h3 h4 h5 h6 h7 h8 h9 h10 h11 h12) [0, 1] [] rfl rfl (by decide) (by decide) (by decide) 0 rfl rfl rfl jw_616 jw_617 jw_618 jw_224 jw_615 jn_X11_netAll rfl (jj_le rfl) (jj_le rfl) (jj_le rfl) (jj_le rfl) (jj_le rfl) dX11_limit_1 rfl (fun _ _ hX => hX.elim) (fun w1 r O_2 => ?_)
  obtain ⟨rfl, rfl⟩ := O_2
  refine jj_apd rfl ?_
  refine jj_aload_n C dX11_limit_4 rfl ?_
  refine jj_get C jk_12 0 (by decide) jw_181 0 rfl rfl dX11_limit_5 ?_
  refine jj_iconst (v := 4) C dX11_limit_8 (by decide) ?_
  refine jj_lald (v := 100) C 1 rfl (vp_in_iff.mpr (by decide)) rfl dX11_limit_9 ?_
  refine jj_lmul (v := 0) C dX11_limit_10 (by decide) ?_
  refine jj_ldc2 (v := 100) C dX11_limit_11 jw_221 ?_
  refine jj_ldiv (v := 0) C dX11_limit_14 (by decide) (by decide) ?_
  exact jj_lret C ⟨rfl, rfl⟩ dX11_limit_15 (jj_le rfl) (jj_le rfl)


set_option maxHeartbeats 4000000 in
set_option maxRecDepth 100000 in
theorem ct_X11_gateLimit_1 {l : Launch} (hl : l.stackTraces = false) (D : va_G) (cA : Nat → ClassId) (ak : (Nat → Nat) × (Nat → Nat)) (h0 h1 h2 h3 h4 h5 h6 h7 h8 h9 h10 h11 h12 : Nat) : jj_M l D cA ak yX11_gateLimit (.code yX11_gateLimit cX11_gateLimit 1 (some .long)) 2 43 0 0 [(h0, .inr (12, [.ref h1, .ref h2, .ref h3, .ref h4, .ref h5, .ref h6, .int 0, .int 0, .long 0, .long 0, .ref h7, .ref h8, .ref h9, .int 0, .int 0, .int 0, .int 0, .int 0, .int (-1), .int 0, .int 0, .ref h10, .ref h11, .ref h12, .int 0])), (h1, .inl (cA 2, 334, .inr (.inl (vp_updL (vp_updL (fun _ => 0) 0 1) 4 100))))] [.ref h0] (fun (w : va_W) (r : Option Value) => (w = [(h0, .inr (12, [.ref h1, .ref h2, .ref h3, .ref h4, .ref h5, .ref h6, .int 0, .int 0, .long 0, .long 0, .ref h7, .ref h8, .ref h9, .int 0, .int 0, .int 0, .int 0, .int 0, .int (-1), .int 0, .int 0, .ref h10, .ref h11, .ref h12, .int 0])), (h1, .inl (cA 2, 334, .inr (.inl (vp_updL (vp_updL (fun _ => 0) 0 1) 4 100))))] ∧ r = some (.long 0))) jj_noX := by
  refine jj_start hl (by decide) jw_887 (jj_le rfl) ?_
  intro p e s m args below meth c A hargs hA C hex hmn
  refine jj_aload_n C dX11_gateLimit_0 rfl ?_
  refine jj_iconst (v := 0) C dX11_gateLimit_1 (by decide) ?_
  refine jj_put C jk_12 7 (by decide) jw_236 rfl 0 rfl rfl rfl rfl rfl dX11_gateLimit_2 ?_
  refine jj_aload_n C dX11_gateLimit_5 rfl ?_
  refine jq_callV (rest := []) C (ct_X11_limit_2 hl D cA ak h0 h1 h2 h3 h4 h5 h6 h7 h8 h9 h10 h11 h12) [0, 1] [] rfl rfl (by decide) (by decide) (by decide) 0 rfl rfl rfl jw_802 jw_803 jw_804 jw_224 jw_801 jn_X11_limit rfl (jj_le rfl) (jj_le rfl) (jj_le rfl) (jj_le rfl) (jj_le rfl) dX11_gateLimit_6 rfl (fun _ _ hX => hX.elim) (fun w1 r O_2 => ?_)
  obtain ⟨rfl, rfl⟩ := O_2
  refine jj_apd rfl ?_
  exact jj_lret C ⟨rfl, rfl⟩ dX11_gateLimit_9 (jj_le rfl) (jj_le rfl)


set_option maxHeartbeats 4000000 in
set_option maxRecDepth 100000 in
theorem ct_X2_settleAll_2 {l : Launch} (hl : l.stackTraces = false) (D : va_G) (cA : Nat → ClassId) (ak : (Nat → Nat) × (Nat → Nat)) (h0 h1 h2 h3 h4 : Nat) : jj_M l D cA ak yX2_settleAll (.code yX2_settleAll cX2_settleAll 4 (some .long)) 1 23 0 0 [(h0, .inr (2, [.int 1, .int 0, .int 0, .int 0, .int 100, .int 0, .int 0, .int 0, .int 0, .int 0, .ref h1, .ref h2, .ref h3, .ref h4])), (h1, .inl (cA 2, 6, .inr (.inl (vp_updL (vp_updL (vp_updL (vp_updL (vp_updL (vp_updL (fun _ => 0) 0 0) 1 0) 2 0) 3 0) 4 0) 5 0))))] [.ref h0] (fun (w : va_W) (r : Option Value) => (w = [(h1, .inl (cA 2, 6, .inr (.inl (vp_updL (vp_updL (vp_updL (vp_updL (vp_updL (vp_updL (fun _ => 0) 0 0) 1 0) 2 0) 3 0) 4 0) 5 0)))), (h0, .inr (2, [.int 1, .int 0, .int 0, .int 0, .int 100, .int 0, .int 0, .int 0, .int 0, .int 0, .ref h1, .ref h2, .ref h3, .ref h4]))] ∧ r = some (.long 0))) jj_noX := by
  refine jj_start hl (by decide) jw_832 (jj_le rfl) ?_
  intro p e s m args below meth c A hargs hA C hex hmn
  refine jj_aload_n C dX2_settleAll_0 rfl ?_
  refine jj_get C jk_2 10 (by decide) jw_410 0 rfl rfl dX2_settleAll_1 ?_
  refine jj_iconst (v := 0) C dX2_settleAll_4 (by decide) ?_
  refine jj_lald (v := 0) C 1 rfl (vp_in_iff.mpr (by decide)) rfl dX2_settleAll_5 ?_
  refine jj_lstore_n C dX2_settleAll_6 (by decide) rfl ?_
  refine jj_iconst (v := 0) C dX2_settleAll_7 (by decide) ?_
  refine jj_istore_n C dX2_settleAll_8 (by decide) rfl ?_
  refine jj_iload_n C dX2_settleAll_9 rfl ?_
  refine jj_aload_n C dX2_settleAll_10 rfl ?_
  refine jj_get C jk_2 7 (by decide) jw_404 0 rfl rfl dX2_settleAll_11 ?_
  refine jj_icmp_geT (tgt := 33) C dX2_settleAll_14 (by decide) (by decide) ?_
  refine jj_aload_n C dX2_settleAll_33 rfl ?_
  refine jq_callV (rest := []) C (ct_X0_dropEmptyLots_1 hl D cA ak h0 h1 h2 h3 h4) [0] [1] rfl rfl (by decide) (by decide) (by decide) 0 rfl rfl rfl jw_823 jw_824 jw_825 jw_57 jw_822 jn_X0_dropEmptyLots rfl (jj_le rfl) (jj_le rfl) (jj_le rfl) (jj_le rfl) (jj_le rfl) dX2_settleAll_34 rfl (fun _ _ hX => hX.elim) (fun w1 r O_2 => ?_)
  obtain ⟨rfl, rfl⟩ := O_2
  refine jj_apd rfl ?_
  refine jj_aload_n C dX2_settleAll_37 rfl ?_
  refine jq_callV (rest := []) C (ct_X0_closeEmptySeries_1 hl D cA ak h0 h1 h2 h3 h4) [1] [0] rfl rfl (by decide) (by decide) (by decide) 0 rfl rfl rfl jw_828 jw_829 jw_830 jw_57 jw_827 jn_X0_closeEmptySeries rfl (jj_le rfl) (jj_le rfl) (jj_le rfl) (jj_le rfl) (jj_le rfl) dX2_settleAll_38 rfl (fun _ _ hX => hX.elim) (fun w1 r O_4 => ?_)
  obtain ⟨rfl, rfl⟩ := O_4
  refine jj_apd rfl ?_
  refine jj_aload_n C dX2_settleAll_41 rfl ?_
  refine jj_get C jk_2 10 (by decide) jw_410 1 rfl rfl dX2_settleAll_42 ?_
  refine jj_iconst (v := 0) C dX2_settleAll_45 (by decide) ?_
  refine jj_lald (v := 0) C 0 rfl (vp_in_iff.mpr (by decide)) rfl dX2_settleAll_46 ?_
  refine jj_lload_n C dX2_settleAll_47 rfl ?_
  refine jj_lsub (v := 0) C dX2_settleAll_48 (by decide) ?_
  exact jj_lret C ⟨rfl, rfl⟩ dX2_settleAll_49 (jj_le rfl) (jj_le rfl)


set_option maxHeartbeats 4000000 in
set_option maxRecDepth 100000 in
theorem ct_X10_wouldCrystallize_1 {l : Launch} (hl : l.stackTraces = false) (D : va_G) (cA : Nat → ClassId) (ak : (Nat → Nat) × (Nat → Nat)) (h0 h1 h2 h3 h4 h5 h6 h7 h8 h9 h10 h11 h12 h13 h14 : Nat) : jj_M l D cA ak yX10_wouldCrystallize (.code yX10_wouldCrystallize cX10_wouldCrystallize 1 (some .long)) 2 46 0 0 [(h0, .inr (11, [.ref h5, .int 0, .int (-1), .ref h1, .ref h2, .ref h6, .ref h7, .int 0, .int 0, .ref h8])), (h1, .inr (2, [.int 1, .int 0, .int 0, .int 0, .int 100, .int 0, .int 0, .int 0, .int 0, .int 0, .ref h3, .ref h9, .ref h10, .ref h11])), (h2, .inr (2, [.int 1, .int 0, .int 0, .int 0, .int 100, .int 0, .int 0, .int 0, .int 0, .int 0, .ref h4, .ref h12, .ref h13, .ref h14])), (h3, .inl (cA 2, 6, .inr (.inl (fun _ => 0)))), (h4, .inl (cA 2, 6, .inr (.inl (fun _ => 0))))] [.ref h0] (fun (w : va_W) (r : Option Value) => (r = some (.long 0))) jj_noX := by
  refine jj_start hl (by decide) jw_888 (jj_le rfl) ?_
  intro p e s m args below meth c A hargs hA C hex hmn
  refine jj_aload_n C dX10_wouldCrystallize_0 rfl ?_
  refine jj_get C jk_11 4 (by decide) jw_136 0 rfl rfl dX10_wouldCrystallize_1 ?_
  refine jj_aload_n C dX10_wouldCrystallize_4 rfl ?_
  refine jj_get C jk_11 3 (by decide) jw_135 0 rfl rfl dX10_wouldCrystallize_5 ?_
  refine jq_callV (rest := []) C (ct_X0_copyFrom_1 hl D cA ak h2 h1 h4 h3 h12 h13 h14 h9 h10 h11) [2, 1, 4, 3] [0] rfl rfl (by decide) (by decide) (by decide) 0 rfl rfl rfl jw_275 jw_276 jw_277 jw_57 jw_274 jn_X0_copyFrom rfl (jj_le rfl) (jj_le rfl) (jj_le rfl) (jj_le rfl) (jj_le rfl) dX10_wouldCrystallize_8 rfl (fun _ _ hX => hX.elim) (fun w1 r O_2 => ?_)
  obtain ⟨rfl, rfl⟩ := O_2
  refine jj_apd rfl ?_
  refine jj_aload_n C dX10_wouldCrystallize_11 rfl ?_
  refine jj_get C jk_11 4 (by decide) jw_136 0 rfl rfl dX10_wouldCrystallize_12 ?_
  refine jq_callS (rest := []) C (ct_X2_settleAll_2 hl D cA ak h2 h4 h12 h13 h14) [1, 3] [0, 2, 4] rfl rfl (by decide) (by decide) (by decide) jw_833 jw_834 jw_407 jw_832 jn_X2_settleAll rfl (jj_le rfl) (jj_le rfl) (jj_le rfl) (jj_le rfl) (jj_le rfl) dX10_wouldCrystallize_15 rfl (fun _ _ hX => hX.elim) (fun w1 r O_4 => ?_)
  obtain ⟨rfl, rfl⟩ := O_4
  refine jj_apd rfl ?_
  exact jj_lret C rfl dX10_wouldCrystallize_18 (jj_le rfl) (jj_le rfl)


set_option maxHeartbeats 4000000 in
set_option maxRecDepth 100000 in
theorem ct_X11_crystallizeAll_2 {l : Launch} (hl : l.stackTraces = false) (D : va_G) (cA : Nat → ClassId) (ak : (Nat → Nat) × (Nat → Nat)) (h0 h1 h2 h3 h4 h5 h6 h7 h8 h9 h10 h11 h12 : Nat) : jj_M l D cA ak yX11_crystallizeAll (.code yX11_crystallizeAll cX11_crystallizeAll 4 (some .long)) 1 22 0 0 [(h0, .inr (12, [.ref h1, .ref h2, .ref h3, .ref h4, .ref h5, .ref h6, .int 0, .int 0, .long 0, .long 0, .ref h7, .ref h8, .ref h9, .int 0, .int 0, .int 0, .int 0, .int 0, .int (-1), .int 0, .int 0, .ref h10, .ref h11, .ref h12, .int 0])), (h1, .inl (cA 2, 334, .inr (.inl (vp_updL (vp_updL (fun _ => 0) 0 1) 4 100))))] [.ref h0] (fun (w : va_W) (r : Option Value) => (w = [(h0, .inr (12, [.ref h1, .ref h2, .ref h3, .ref h4, .ref h5, .ref h6, .int 0, .int 0, .long 0, .long 0, .ref h7, .ref h8, .ref h9, .int 0, .int 0, .int 0, .int 0, .int 0, .int (-1), .int 0, .int 0, .ref h10, .ref h11, .ref h12, .int 0])), (h1, .inl (cA 2, 334, .inr (.inl (vp_updL (vp_updL (fun _ => 0) 0 1) 4 100))))] ∧ r = some (.long 0))) jj_noX := by
  refine jj_start hl (by decide) jw_837 (jj_le rfl) ?_
  intro p e s m args below meth c A hargs hA C hex hmn
  refine jj_aload_n C dX11_crystallizeAll_0 rfl ?_
  refine jj_get C jk_12 0 (by decide) jw_181 0 rfl rfl dX11_crystallizeAll_1 ?_
  refine jj_bipush (v := 10) C dX11_crystallizeAll_4 (by decide) ?_
  refine jj_lald (v := 0) C 1 rfl (vp_in_iff.mpr (by decide)) rfl dX11_crystallizeAll_6 ?_
  refine jj_lstore_n C dX11_crystallizeAll_7 (by decide) rfl ?_
  refine jj_iconst (v := 0) C dX11_crystallizeAll_8 (by decide) ?_
  refine jj_istore_n C dX11_crystallizeAll_9 (by decide) rfl ?_
  refine jj_iload_n C dX11_crystallizeAll_10 rfl ?_
  refine jj_i2l (v := 0) C dX11_crystallizeAll_11 (by decide) ?_
  refine jj_aload_n C dX11_crystallizeAll_12 rfl ?_
  refine jj_get C jk_12 0 (by decide) jw_181 0 rfl rfl dX11_crystallizeAll_13 ?_
  refine jj_bipush (v := 6) C dX11_crystallizeAll_16 (by decide) ?_
  refine jj_lald (v := 0) C 1 rfl (vp_in_iff.mpr (by decide)) rfl dX11_crystallizeAll_18 ?_
  refine jj_lcmp_geT (tgt := 37) C dX11_crystallizeAll_19 dX11_crystallizeAll_20 (by decide) (by decide) ?_
  refine jj_aload_n C dX11_crystallizeAll_37 rfl ?_
  refine jq_callV (rest := []) C (ct_X11_dropEmptyLots_1 hl D cA ak h0 h1 h2 h3 h4 h5 h6 h7 h8 h9 h10 h11 h12) [0, 1] [] rfl rfl (by decide) (by decide) (by decide) 0 rfl rfl rfl jw_542 jw_543 jw_544 jw_224 jw_541 jn_X11_dropEmptyLots rfl (jj_le rfl) (jj_le rfl) (jj_le rfl) (jj_le rfl) (jj_le rfl) dX11_crystallizeAll_38 rfl (fun _ _ hX => hX.elim) (fun w1 r O_2 => ?_)
  obtain ⟨rfl, rfl⟩ := O_2
  refine jj_apd rfl ?_
  refine jj_aload_n C dX11_crystallizeAll_41 rfl ?_
  refine jq_callV (rest := []) C (ct_X11_closeEmpty_1 hl D cA ak h0 h1 h2 h3 h4 h5 h6 h7 h8 h9 h10 h11 h12) [0, 1] [] rfl rfl (by decide) (by decide) (by decide) 0 rfl rfl rfl jw_547 jw_548 jw_549 jw_224 jw_546 jn_X11_closeEmpty rfl (jj_le rfl) (jj_le rfl) (jj_le rfl) (jj_le rfl) (jj_le rfl) dX11_crystallizeAll_42 rfl (fun _ _ hX => hX.elim) (fun w1 r O_4 => ?_)
  obtain ⟨rfl, rfl⟩ := O_4
  refine jj_apd rfl ?_
  refine jj_aload_n C dX11_crystallizeAll_45 rfl ?_
  refine jj_get C jk_12 0 (by decide) jw_181 0 rfl rfl dX11_crystallizeAll_46 ?_
  refine jj_bipush (v := 10) C dX11_crystallizeAll_49 (by decide) ?_
  refine jj_lald (v := 0) C 1 rfl (vp_in_iff.mpr (by decide)) rfl dX11_crystallizeAll_51 ?_
  refine jj_lload_n C dX11_crystallizeAll_52 rfl ?_
  refine jj_lsub (v := 0) C dX11_crystallizeAll_53 (by decide) ?_
  exact jj_lret C ⟨rfl, rfl⟩ dX11_crystallizeAll_54 (jj_le rfl) (jj_le rfl)


set_option maxHeartbeats 4000000 in
set_option maxRecDepth 100000 in
theorem ct_X11_wouldCrystallize_1 {l : Launch} (hl : l.stackTraces = false) (D : va_G) (cA : Nat → ClassId) (ak : (Nat → Nat) × (Nat → Nat)) (h0 h1 h2 h3 h4 h5 h6 h7 h8 h9 h10 h11 h12 : Nat) : jj_M l D cA ak yX11_wouldCrystallize (.code yX11_wouldCrystallize cX11_wouldCrystallize 3 (some .long)) 2 45 0 0 [(h0, .inr (12, [.ref h1, .ref h3, .ref h2, .ref h4, .ref h5, .ref h6, .int 0, .int 0, .long 0, .long 0, .ref h7, .ref h8, .ref h9, .int 0, .int 0, .int 0, .int 0, .int 0, .int (-1), .int 0, .int 0, .ref h10, .ref h11, .ref h12, .int 0])), (h1, .inl (cA 2, 334, .inr (.inl (vp_updL (vp_updL (fun _ => 0) 0 1) 4 100)))), (h2, .inl (cA 2, 334, .inr (.inl (fun _ => 0))))] [.ref h0] (fun (w : va_W) (r : Option Value) => (w = [(h0, .inr (12, [.ref h1, .ref h3, .ref h2, .ref h4, .ref h5, .ref h6, .int 0, .int 0, .long 0, .long 0, .ref h7, .ref h8, .ref h9, .int 0, .int 0, .int 0, .int 0, .int 0, .int (-1), .int 0, .int 0, .ref h10, .ref h11, .ref h12, .int 0])), (h2, .inl (cA 2, 334, .inr (.inl (jj_cpy (vp_updL (vp_updL (fun _ => 0) 0 1) 4 100) (fun _ => 0) 334)))), (h1, .inl (cA 2, 334, .inr (.inl (jj_cpy (jj_cpy (vp_updL (vp_updL (fun _ => 0) 0 1) 4 100) (fun _ => 0) 334) (vp_updL (vp_updL (fun _ => 0) 0 1) 4 100) 334))))] ∧ r = some (.long 0))) jj_noX := by
  refine jj_start hl (by decide) jw_889 (jj_le rfl) ?_
  intro p e s m args below meth c A hargs hA C hex hmn
  refine jj_aload_n C dX11_wouldCrystallize_0 rfl ?_
  refine jj_iconst (v := 0) C dX11_wouldCrystallize_1 (by decide) ?_
  refine jj_put C jk_12 7 (by decide) jw_236 rfl 0 rfl rfl rfl rfl rfl dX11_wouldCrystallize_2 ?_
  refine jj_aload_n C dX11_wouldCrystallize_5 rfl ?_
  refine jj_get C jk_12 0 (by decide) jw_181 0 rfl rfl dX11_wouldCrystallize_6 ?_
  refine jj_aload_n C dX11_wouldCrystallize_9 rfl ?_
  refine jj_get C jk_12 2 (by decide) jw_209 0 rfl rfl dX11_wouldCrystallize_10 ?_
  refine jq_callS (rest := []) C (ct_X11_copy_1 hl D cA ak h1 h2 (vp_updL (vp_updL (fun _ => 0) 0 1) 4 100) (fun _ => 0)) [1, 2] [0] rfl rfl (by decide) (by decide) (by decide) jw_327 jw_328 jw_224 jw_326 jn_X11_copy rfl (jj_le rfl) (jj_le rfl) (jj_le rfl) (jj_le rfl) (jj_le rfl) dX11_wouldCrystallize_13 rfl (fun _ _ hX => hX.elim) (fun w1 r O_2 => ?_)
  obtain ⟨rfl, rfl⟩ := O_2
  refine jj_apd rfl ?_
  refine jj_aload_n C dX11_wouldCrystallize_16 rfl ?_
  refine jq_callV (rest := []) C (ct_X11_crystallizeAll_2 hl D cA ak h0 h1 h3 h2 h4 h5 h6 h7 h8 h9 h10 h11 h12) [0, 1] [2] rfl rfl (by decide) (by decide) (by decide) 0 rfl rfl rfl jw_838 jw_839 jw_840 jw_224 jw_837 jn_X11_crystallizeAll rfl (jj_le rfl) (jj_le rfl) (jj_le rfl) (jj_le rfl) (jj_le rfl) dX11_wouldCrystallize_17 rfl (fun _ _ hX => hX.elim) (fun w1 r O_4 => ?_)
  obtain ⟨rfl, rfl⟩ := O_4
  refine jj_apd rfl ?_
  refine jj_lstore_n C dX11_wouldCrystallize_20 (by decide) rfl ?_
  refine jj_aload_n C dX11_wouldCrystallize_21 rfl ?_
  refine jj_get C jk_12 2 (by decide) jw_209 1 rfl rfl dX11_wouldCrystallize_22 ?_
  refine jj_aload_n C dX11_wouldCrystallize_25 rfl ?_
  refine jj_get C jk_12 0 (by decide) jw_181 1 rfl rfl dX11_wouldCrystallize_26 ?_
  refine jq_callS (rest := []) C (ct_X11_copy_1 hl D cA ak h2 h1 (jj_cpy (vp_updL (vp_updL (fun _ => 0) 0 1) 4 100) (fun _ => 0) 334) (vp_updL (vp_updL (fun _ => 0) 0 1) 4 100)) [0, 2] [1] rfl rfl (by decide) (by decide) (by decide) jw_327 jw_328 jw_224 jw_326 jn_X11_copy rfl (jj_le rfl) (jj_le rfl) (jj_le rfl) (jj_le rfl) (jj_le rfl) dX11_wouldCrystallize_29 rfl (fun _ _ hX => hX.elim) (fun w1 r O_6 => ?_)
  obtain ⟨rfl, rfl⟩ := O_6
  refine jj_apd rfl ?_
  refine jj_lload_n C dX11_wouldCrystallize_32 rfl ?_
  exact jj_lret C ⟨rfl, rfl⟩ dX11_wouldCrystallize_33 (jj_le rfl) (jj_le rfl)


set_option maxHeartbeats 4000000 in
set_option maxRecDepth 100000 in
theorem ct_X10_wouldMerge_1 {l : Launch} (hl : l.stackTraces = false) (D : va_G) (cA : Nat → ClassId) (ak : (Nat → Nat) × (Nat → Nat)) (h0 h1 h2 h3 h4 h5 h6 h7 h8 h9 h10 h11 h12 h13 h14 : Nat) : jj_M l D cA ak yX10_wouldMerge (.code yX10_wouldMerge cX10_wouldMerge 1 (some .int)) 2 46 0 0 [(h0, .inr (11, [.ref h5, .int 0, .int (-1), .ref h1, .ref h2, .ref h6, .ref h7, .int 0, .int 0, .ref h8])), (h1, .inr (2, [.int 1, .int 0, .int 0, .int 0, .int 100, .int 0, .int 0, .int 0, .int 0, .int 0, .ref h3, .ref h9, .ref h10, .ref h11])), (h2, .inr (2, [.int 1, .int 0, .int 0, .int 0, .int 100, .int 0, .int 0, .int 0, .int 0, .int 0, .ref h4, .ref h12, .ref h13, .ref h14])), (h3, .inl (cA 2, 6, .inr (.inl (fun _ => 0)))), (h4, .inl (cA 2, 6, .inr (.inl (fun _ => 0))))] [.ref h0] (fun (w : va_W) (r : Option Value) => (r = some (.int 0))) jj_noX := by
  refine jj_start hl (by decide) jw_890 (jj_le rfl) ?_
  intro p e s m args below meth c A hargs hA C hex hmn
  refine jj_aload_n C dX10_wouldMerge_0 rfl ?_
  refine jj_get C jk_11 4 (by decide) jw_136 0 rfl rfl dX10_wouldMerge_1 ?_
  refine jj_aload_n C dX10_wouldMerge_4 rfl ?_
  refine jj_get C jk_11 3 (by decide) jw_135 0 rfl rfl dX10_wouldMerge_5 ?_
  refine jq_callV (rest := []) C (ct_X0_copyFrom_1 hl D cA ak h2 h1 h4 h3 h12 h13 h14 h9 h10 h11) [2, 1, 4, 3] [0] rfl rfl (by decide) (by decide) (by decide) 0 rfl rfl rfl jw_275 jw_276 jw_277 jw_57 jw_274 jn_X0_copyFrom rfl (jj_le rfl) (jj_le rfl) (jj_le rfl) (jj_le rfl) (jj_le rfl) dX10_wouldMerge_8 rfl (fun _ _ hX => hX.elim) (fun w1 r O_2 => ?_)
  obtain ⟨rfl, rfl⟩ := O_2
  refine jj_apd rfl ?_
  refine jj_aload_n C dX10_wouldMerge_11 rfl ?_
  refine jj_get C jk_11 4 (by decide) jw_136 0 rfl rfl dX10_wouldMerge_12 ?_
  refine jq_callS (rest := []) C (ct_X2_settleAll_2 hl D cA ak h2 h4 h12 h13 h14) [1, 3] [0, 2, 4] rfl rfl (by decide) (by decide) (by decide) jw_833 jw_834 jw_407 jw_832 jn_X2_settleAll rfl (jj_le rfl) (jj_le rfl) (jj_le rfl) (jj_le rfl) (jj_le rfl) dX10_wouldMerge_15 rfl (fun _ _ hX => hX.elim) (fun w1 r O_4 => ?_)
  obtain ⟨rfl, rfl⟩ := O_4
  refine jj_apd rfl ?_
  refine jj_pop2 C dX10_wouldMerge_18 rfl ?_
  refine jj_aload_n C dX10_wouldMerge_19 rfl ?_
  refine jj_get C jk_11 4 (by decide) jw_136 0 rfl rfl dX10_wouldMerge_20 ?_
  refine jq_callS (rest := []) C (ct_X2_mergeAll_1 hl D cA ak h2 h4 h12 h13 h14) [4] [0, 1, 2, 3] rfl rfl (by decide) (by decide) (by decide) jw_845 jw_846 jw_407 jw_844 jn_X2_mergeAll rfl (jj_le rfl) (jj_le rfl) (jj_le rfl) (jj_le rfl) (jj_le rfl) dX10_wouldMerge_23 rfl (fun _ _ hX => hX.elim) (fun w1 r O_6 => ?_)
  obtain ⟨rfl, rfl⟩ := O_6
  refine jj_apd rfl ?_
  exact jj_iret C rfl dX10_wouldMerge_26 (jj_le rfl) (jj_le rfl)


set_option maxHeartbeats 4000000 in
set_option maxRecDepth 100000 in
theorem ct_X11_mergeAll_2 {l : Launch} (hl : l.stackTraces = false) (D : va_G) (cA : Nat → ClassId) (ak : (Nat → Nat) × (Nat → Nat)) (h0 h1 h2 h3 h4 h5 h6 h7 h8 h9 h10 h11 h12 : Nat) : jj_M l D cA ak yX11_mergeAll (.code yX11_mergeAll cX11_mergeAll 7 (some .int)) 0 0 0 0 [(h0, .inr (12, [.ref h1, .ref h2, .ref h3, .ref h4, .ref h5, .ref h6, .int 0, .int 0, .long 0, .long 0, .ref h7, .ref h8, .ref h9, .int 0, .int 0, .int 0, .int 0, .int 0, .int (-1), .int 0, .int 0, .ref h10, .ref h11, .ref h12, .int 0])), (h1, .inl (cA 2, 334, .inr (.inl (vp_updL (vp_updL (fun _ => 0) 0 1) 4 100))))] [.ref h0] (fun (w : va_W) (r : Option Value) => (w = [(h0, .inr (12, [.ref h1, .ref h2, .ref h3, .ref h4, .ref h5, .ref h6, .int 0, .int 0, .long 0, .long 0, .ref h7, .ref h8, .ref h9, .int 0, .int 0, .int 0, .int 0, .int 0, .int (-1), .int 0, .int 0, .ref h10, .ref h11, .ref h12, .int 0])), (h1, .inl (cA 2, 334, .inr (.inl (vp_updL (vp_updL (fun _ => 0) 0 1) 4 100))))] ∧ r = some (.int 0))) jj_noX := by
  refine jj_start hl (by decide) jw_849 (jj_le rfl) ?_
  intro p e s m args below meth c A hargs hA C hex hmn
  refine jj_aload_n C dX11_mergeAll_0 rfl ?_
  refine jj_get C jk_12 0 (by decide) jw_181 0 rfl rfl dX11_mergeAll_1 ?_
  refine jj_iconst (v := 1) C dX11_mergeAll_4 (by decide) ?_
  refine jj_lald (v := 0) C 1 rfl (vp_in_iff.mpr (by decide)) rfl dX11_mergeAll_5 ?_
  refine jj_lconst (v := 1) C dX11_mergeAll_6 (by decide) ?_
  refine jj_lcmp_eqF (tgt := 23) C dX11_mergeAll_7 dX11_mergeAll_8 (by decide) (by decide) ?_
  refine jj_aload_n C dX11_mergeAll_11 rfl ?_
  refine jj_get C jk_12 0 (by decide) jw_181 0 rfl rfl dX11_mergeAll_12 ?_
  refine jj_bipush (v := 6) C dX11_mergeAll_15 (by decide) ?_
  refine jj_lald (v := 0) C 1 rfl (vp_in_iff.mpr (by decide)) rfl dX11_mergeAll_17 ?_
  refine jj_lconst (v := 0) C dX11_mergeAll_18 (by decide) ?_
  refine jj_lcmp_neF (tgt := 25) C dX11_mergeAll_19 dX11_mergeAll_20 (by decide) (by decide) ?_
  refine jj_iconst (v := 0) C dX11_mergeAll_23 (by decide) ?_
  exact jj_iret C ⟨rfl, rfl⟩ dX11_mergeAll_24 (jj_le rfl) (jj_le rfl)


set_option maxHeartbeats 4000000 in
set_option maxRecDepth 100000 in
theorem ct_X11_wouldMerge_1 {l : Launch} (hl : l.stackTraces = false) (D : va_G) (cA : Nat → ClassId) (ak : (Nat → Nat) × (Nat → Nat)) (h0 h1 h2 h3 h4 h5 h6 h7 h8 h9 h10 h11 h12 : Nat) : jj_M l D cA ak yX11_wouldMerge (.code yX11_wouldMerge cX11_wouldMerge 4 (some .int)) 2 45 0 0 [(h0, .inr (12, [.ref h1, .ref h3, .ref h2, .ref h4, .ref h5, .ref h6, .int 0, .int 0, .long 0, .long 0, .ref h7, .ref h8, .ref h9, .int 0, .int 0, .int 0, .int 0, .int 0, .int (-1), .int 0, .int 0, .ref h10, .ref h11, .ref h12, .int 0])), (h1, .inl (cA 2, 334, .inr (.inl (vp_updL (vp_updL (fun _ => 0) 0 1) 4 100)))), (h2, .inl (cA 2, 334, .inr (.inl (fun _ => 0))))] [.ref h0] (fun (w : va_W) (r : Option Value) => (w = [(h0, .inr (12, [.ref h1, .ref h3, .ref h2, .ref h4, .ref h5, .ref h6, .int 0, .int 0, .long 0, .long 0, .ref h7, .ref h8, .ref h9, .int 0, .int 0, .int 0, .int 0, .int 0, .int (-1), .int 0, .int 0, .ref h10, .ref h11, .ref h12, .int 0])), (h2, .inl (cA 2, 334, .inr (.inl (jj_cpy (vp_updL (vp_updL (fun _ => 0) 0 1) 4 100) (fun _ => 0) 334)))), (h1, .inl (cA 2, 334, .inr (.inl (jj_cpy (jj_cpy (vp_updL (vp_updL (fun _ => 0) 0 1) 4 100) (fun _ => 0) 334) (vp_updL (vp_updL (fun _ => 0) 0 1) 4 100) 334))))] ∧ r = some (.int 0))) jj_noX := by
  refine jj_start hl (by decide) jw_891 (jj_le rfl) ?_
  intro p e s m args below meth c A hargs hA C hex hmn
  refine jj_aload_n C dX11_wouldMerge_0 rfl ?_
  refine jj_iconst (v := 0) C dX11_wouldMerge_1 (by decide) ?_
  refine jj_put C jk_12 7 (by decide) jw_236 rfl 0 rfl rfl rfl rfl rfl dX11_wouldMerge_2 ?_
  refine jj_aload_n C dX11_wouldMerge_5 rfl ?_
  refine jj_get C jk_12 0 (by decide) jw_181 0 rfl rfl dX11_wouldMerge_6 ?_
  refine jj_aload_n C dX11_wouldMerge_9 rfl ?_
  refine jj_get C jk_12 2 (by decide) jw_209 0 rfl rfl dX11_wouldMerge_10 ?_
  refine jq_callS (rest := []) C (ct_X11_copy_1 hl D cA ak h1 h2 (vp_updL (vp_updL (fun _ => 0) 0 1) 4 100) (fun _ => 0)) [1, 2] [0] rfl rfl (by decide) (by decide) (by decide) jw_327 jw_328 jw_224 jw_326 jn_X11_copy rfl (jj_le rfl) (jj_le rfl) (jj_le rfl) (jj_le rfl) (jj_le rfl) dX11_wouldMerge_13 rfl (fun _ _ hX => hX.elim) (fun w1 r O_2 => ?_)
  obtain ⟨rfl, rfl⟩ := O_2
  refine jj_apd rfl ?_
  refine jj_aload_n C dX11_wouldMerge_16 rfl ?_
  refine jq_callV (rest := []) C (ct_X11_crystallizeAll_2 hl D cA ak h0 h1 h3 h2 h4 h5 h6 h7 h8 h9 h10 h11 h12) [0, 1] [2] rfl rfl (by decide) (by decide) (by decide) 0 rfl rfl rfl jw_838 jw_839 jw_840 jw_224 jw_837 jn_X11_crystallizeAll rfl (jj_le rfl) (jj_le rfl) (jj_le rfl) (jj_le rfl) (jj_le rfl) dX11_wouldMerge_17 rfl (fun _ _ hX => hX.elim) (fun w1 r O_4 => ?_)
  obtain ⟨rfl, rfl⟩ := O_4
  refine jj_apd rfl ?_
  refine jj_lstore_n C dX11_wouldMerge_20 (by decide) rfl ?_
  refine jj_aload_n C dX11_wouldMerge_21 rfl ?_
  refine jq_callV (rest := []) C (ct_X11_mergeAll_2 hl D cA ak h0 h1 h3 h2 h4 h5 h6 h7 h8 h9 h10 h11 h12) [1, 2] [0] rfl rfl (by decide) (by decide) (by decide) 0 rfl rfl rfl jw_850 jw_851 jw_852 jw_224 jw_849 jn_X11_mergeAll rfl (jj_le rfl) (jj_le rfl) (jj_le rfl) (jj_le rfl) (jj_le rfl) dX11_wouldMerge_22 rfl (fun _ _ hX => hX.elim) (fun w1 r O_6 => ?_)
  obtain ⟨rfl, rfl⟩ := O_6
  refine jj_apd rfl ?_
  refine jj_istore_n C dX11_wouldMerge_25 (by decide) rfl ?_
  refine jj_aload_n C dX11_wouldMerge_26 rfl ?_
  refine jj_get C jk_12 2 (by decide) jw_209 1 rfl rfl dX11_wouldMerge_27 ?_
  refine jj_aload_n C dX11_wouldMerge_30 rfl ?_
  refine jj_get C jk_12 0 (by decide) jw_181 1 rfl rfl dX11_wouldMerge_31 ?_
  refine jq_callS (rest := []) C (ct_X11_copy_1 hl D cA ak h2 h1 (jj_cpy (vp_updL (vp_updL (fun _ => 0) 0 1) 4 100) (fun _ => 0) 334) (vp_updL (vp_updL (fun _ => 0) 0 1) 4 100)) [0, 2] [1] rfl rfl (by decide) (by decide) (by decide) jw_327 jw_328 jw_224 jw_326 jn_X11_copy rfl (jj_le rfl) (jj_le rfl) (jj_le rfl) (jj_le rfl) (jj_le rfl) dX11_wouldMerge_34 rfl (fun _ _ hX => hX.elim) (fun w1 r O_8 => ?_)
  obtain ⟨rfl, rfl⟩ := O_8
  refine jj_apd rfl ?_
  refine jj_iload_n C dX11_wouldMerge_37 rfl ?_
  exact jj_iret C ⟨rfl, rfl⟩ dX11_wouldMerge_38 (jj_le rfl) (jj_le rfl)


