set_option maxHeartbeats 4000000 in
set_option maxRecDepth 100000 in
theorem ct_X11_unitsBy_4 {l : Launch} (hl : l.stackTraces = false) (D : va_G) (cA : Nat → ClassId) (ak : (Nat → Nat) × (Nat → Nat)) (h0 h1 h2 h3 h4 h5 h6 h7 h8 h9 h10 h11 h12 : Nat) : jj_M l D cA ak yX11_unitsBy (.code yX11_unitsBy cX11_unitsBy 5 (some .long)) 0 0 0 0 [(h0, .inr (12, [.ref h1, .ref h2, .ref h3, .ref h4, .ref h5, .ref h6, .int 0, .int 0, .long 0, .long 0, .ref h7, .ref h8, .ref h9, .int 0, .int 0, .int 0, .int 0, .int 0, .int (-1), .int 0, .int 0, .ref h10, .ref h11, .ref h12, .int 0])), (h1, .inl (cA 2, 334, .inr (.inl (jj_cpy (jj_cpy (vp_updL (vp_updL (fun _ => 0) 0 1) 4 100) (fun _ => 0) 334) (vp_updL (vp_updL (fun _ => 0) 0 1) 4 100) 334))))] [.ref h0, .int 0] (fun (w : va_W) (r : Option Value) => (w = [(h0, .inr (12, [.ref h1, .ref h2, .ref h3, .ref h4, .ref h5, .ref h6, .int 0, .int 0, .long 0, .long 0, .ref h7, .ref h8, .ref h9, .int 0, .int 0, .int 0, .int 0, .int 0, .int (-1), .int 0, .int 0, .ref h10, .ref h11, .ref h12, .int 0])), (h1, .inl (cA 2, 334, .inr (.inl (jj_cpy (jj_cpy (vp_updL (vp_updL (fun _ => 0) 0 1) 4 100) (fun _ => 0) 334) (vp_updL (vp_updL (fun _ => 0) 0 1) 4 100) 334))))] ∧ r = some (.long 0))) jj_noX := by
  refine jj_start hl (by decide) jw_380 (jj_le rfl) ?_
  intro p e s m args below meth c A hargs hA C hex hmn
  refine jj_lconst (v := 0) C dX11_unitsBy_0 (by decide) ?_
  refine jj_lstore_n C dX11_unitsBy_1 (by decide) rfl ?_
  refine jj_iconst (v := 0) C dX11_unitsBy_2 (by decide) ?_
  refine jj_istore C dX11_unitsBy_3 (by decide) rfl ?_
  refine jj_iload C dX11_unitsBy_5 rfl ?_
  refine jj_i2l (v := 0) C dX11_unitsBy_7 (by decide) ?_
  refine jj_aload_n C dX11_unitsBy_8 rfl ?_
  refine jj_get C jk_12 0 (by decide) jw_181 0 rfl rfl dX11_unitsBy_9 ?_
  refine jj_bipush (v := 7) C dX11_unitsBy_12 (by decide) ?_
  refine jj_lald (v := 0) C 1 rfl (vp_in_iff.mpr (by decide)) rfl dX11_unitsBy_14 ?_
  refine jj_lcmp_geT (tgt := 58) C dX11_unitsBy_15 dX11_unitsBy_16 (by decide) (by decide) ?_
  refine jj_lload_n C dX11_unitsBy_58 rfl ?_
  exact jj_lret C ⟨rfl, rfl⟩ dX11_unitsBy_59 (jj_le rfl) (jj_le rfl)


set_option maxHeartbeats 4000000 in
set_option maxRecDepth 100000 in
theorem ct_X11_dropEmptyLots_2 {l : Launch} (hl : l.stackTraces = false) (D : va_G) (cA : Nat → ClassId) (ak : (Nat → Nat) × (Nat → Nat)) (h0 h1 h2 h3 h4 h5 h6 h7 h8 h9 h10 h11 h12 : Nat) : jj_M l D cA ak yX11_dropEmptyLots (.code yX11_dropEmptyLots cX11_dropEmptyLots 2 none) 0 0 0 0 [(h0, .inr (12, [.ref h1, .ref h2, .ref h3, .ref h4, .ref h5, .ref h6, .int 0, .int 0, .long 0, .long 0, .ref h7, .ref h8, .ref h9, .int 0, .int 0, .int 0, .int 0, .int 0, .int (-1), .int 0, .int 0, .ref h10, .ref h11, .ref h12, .int 0])), (h1, .inl (cA 2, 334, .inr (.inl (jj_cpy (jj_cpy (vp_updL (vp_updL (fun _ => 0) 0 1) 4 100) (fun _ => 0) 334) (vp_updL (vp_updL (fun _ => 0) 0 1) 4 100) 334))))] [.ref h0] (fun (w : va_W) (r : Option Value) => (w = [(h0, .inr (12, [.ref h1, .ref h2, .ref h3, .ref h4, .ref h5, .ref h6, .int 0, .int 0, .long 0, .long 0, .ref h7, .ref h8, .ref h9, .int 0, .int 0, .int 0, .int 0, .int 0, .int (-1), .int 0, .int 0, .ref h10, .ref h11, .ref h12, .int 0])), (h1, .inl (cA 2, 334, .inr (.inl (jj_cpy (jj_cpy (vp_updL (vp_updL (fun _ => 0) 0 1) 4 100) (fun _ => 0) 334) (vp_updL (vp_updL (fun _ => 0) 0 1) 4 100) 334))))] ∧ r = none)) jj_noX := by
  refine jj_start hl (by decide) jw_541 (jj_le rfl) ?_
  intro p e s m args below meth c A hargs hA C hex hmn
  refine jj_aload_n C dX11_dropEmptyLots_0 rfl ?_
  refine jj_get C jk_12 0 (by decide) jw_181 0 rfl rfl dX11_dropEmptyLots_1 ?_
  refine jj_bipush (v := 7) C dX11_dropEmptyLots_4 (by decide) ?_
  refine jj_lald (v := 0) C 1 rfl (vp_in_iff.mpr (by decide)) rfl dX11_dropEmptyLots_6 ?_
  refine jj_l2i (v := 0) C dX11_dropEmptyLots_7 (by decide) ?_
  refine jj_iconst (v := 1) C dX11_dropEmptyLots_8 (by decide) ?_
  refine jj_isub (v := (-1)) C dX11_dropEmptyLots_9 (by decide) ?_
  refine jj_istore_n C dX11_dropEmptyLots_10 (by decide) rfl ?_
  refine jj_iload_n C dX11_dropEmptyLots_11 rfl ?_
  refine jj_if_ltT (tgt := 45) C dX11_dropEmptyLots_12 (by decide) (by decide) ?_
  exact jj_vret C ⟨rfl, rfl⟩ dX11_dropEmptyLots_45 (jj_le rfl) (jj_le rfl)


set_option maxHeartbeats 4000000 in
set_option maxRecDepth 100000 in
theorem ct_X11_closeEmpty_2 {l : Launch} (hl : l.stackTraces = false) (D : va_G) (cA : Nat → ClassId) (ak : (Nat → Nat) × (Nat → Nat)) (h0 h1 h2 h3 h4 h5 h6 h7 h8 h9 h10 h11 h12 : Nat) : jj_M l D cA ak yX11_closeEmpty (.code yX11_closeEmpty cX11_closeEmpty 3 none) 0 0 0 0 [(h0, .inr (12, [.ref h1, .ref h2, .ref h3, .ref h4, .ref h5, .ref h6, .int 0, .int 0, .long 0, .long 0, .ref h7, .ref h8, .ref h9, .int 0, .int 0, .int 0, .int 0, .int 0, .int (-1), .int 0, .int 0, .ref h10, .ref h11, .ref h12, .int 0])), (h1, .inl (cA 2, 334, .inr (.inl (jj_cpy (jj_cpy (vp_updL (vp_updL (fun _ => 0) 0 1) 4 100) (fun _ => 0) 334) (vp_updL (vp_updL (fun _ => 0) 0 1) 4 100) 334))))] [.ref h0] (fun (w : va_W) (r : Option Value) => (w = [(h0, .inr (12, [.ref h1, .ref h2, .ref h3, .ref h4, .ref h5, .ref h6, .int 0, .int 0, .long 0, .long 0, .ref h7, .ref h8, .ref h9, .int 0, .int 0, .int 0, .int 0, .int 0, .int (-1), .int 0, .int 0, .ref h10, .ref h11, .ref h12, .int 0])), (h1, .inl (cA 2, 334, .inr (.inl (jj_cpy (jj_cpy (vp_updL (vp_updL (fun _ => 0) 0 1) 4 100) (fun _ => 0) 334) (vp_updL (vp_updL (fun _ => 0) 0 1) 4 100) 334))))] ∧ r = none)) jj_noX := by
  refine jj_start hl (by decide) jw_546 (jj_le rfl) ?_
  intro p e s m args below meth c A hargs hA C hex hmn
  refine jj_aload_n C dX11_closeEmpty_0 rfl ?_
  refine jj_get C jk_12 0 (by decide) jw_181 0 rfl rfl dX11_closeEmpty_1 ?_
  refine jj_bipush (v := 6) C dX11_closeEmpty_4 (by decide) ?_
  refine jj_lald (v := 0) C 1 rfl (vp_in_iff.mpr (by decide)) rfl dX11_closeEmpty_6 ?_
  refine jj_l2i (v := 0) C dX11_closeEmpty_7 (by decide) ?_
  refine jj_iconst (v := 1) C dX11_closeEmpty_8 (by decide) ?_
  refine jj_isub (v := (-1)) C dX11_closeEmpty_9 (by decide) ?_
  refine jj_istore_n C dX11_closeEmpty_10 (by decide) rfl ?_
  refine jj_iload_n C dX11_closeEmpty_11 rfl ?_
  refine jj_if_ltT (tgt := 65) C dX11_closeEmpty_12 (by decide) (by decide) ?_
  exact jj_vret C ⟨rfl, rfl⟩ dX11_closeEmpty_65 (jj_le rfl) (jj_le rfl)


set_option maxHeartbeats 4000000 in
set_option maxRecDepth 100000 in
theorem ct_X11_redeemFrom_3 {l : Launch} (hl : l.stackTraces = false) (D : va_G) (cA : Nat → ClassId) (ak : (Nat → Nat) × (Nat → Nat)) (h0 h1 h2 h3 h4 h5 h6 h7 h8 h9 h10 h11 h12 : Nat) : jj_M l D cA ak yX11_redeemFrom (.code yX11_redeemFrom cX11_redeemFrom 10 (some .long)) 1 22 0 0 [(h0, .inr (12, [.ref h1, .ref h2, .ref h3, .ref h4, .ref h5, .ref h6, .int 0, .int 0, .long 0, .long 0, .ref h7, .ref h8, .ref h9, .int 0, .int 0, .int 0, .int 0, .int 0, .int (-1), .int 0, .int 0, .ref h10, .ref h11, .ref h12, .int 0])), (h1, .inl (cA 2, 334, .inr (.inl (jj_cpy (jj_cpy (vp_updL (vp_updL (fun _ => 0) 0 1) 4 100) (fun _ => 0) 334) (vp_updL (vp_updL (fun _ => 0) 0 1) 4 100) 334))))] [.ref h0, .int 0, .long 0] (fun (w : va_W) (r : Option Value) => (w = [(h0, .inr (12, [.ref h1, .ref h2, .ref h3, .ref h4, .ref h5, .ref h6, .int 0, .int 0, .long 0, .long 0, .ref h7, .ref h8, .ref h9, .int 0, .int 0, .int 0, .int 0, .int 0, .int (-1), .int 0, .int 0, .ref h10, .ref h11, .ref h12, .int 0])), (h1, .inl (cA 2, 334, .inr (.inl (jj_cpy (jj_cpy (vp_updL (vp_updL (fun _ => 0) 0 1) 4 100) (fun _ => 0) 334) (vp_updL (vp_updL (fun _ => 0) 0 1) 4 100) 334))))] ∧ r = some (.long 0))) jj_noX := by
  refine jj_start hl (by decide) jw_551 (jj_le rfl) ?_
  intro p e s m args below meth c A hargs hA C hex hmn
  refine jj_lload_n C dX11_redeemFrom_0 rfl ?_
  refine jj_lstore C dX11_redeemFrom_1 (by decide) rfl ?_
  refine jj_iconst (v := 0) C dX11_redeemFrom_3 (by decide) ?_
  refine jj_istore C dX11_redeemFrom_4 (by decide) rfl ?_
  refine jj_iload C dX11_redeemFrom_6 rfl ?_
  refine jj_i2l (v := 0) C dX11_redeemFrom_8 (by decide) ?_
  refine jj_aload_n C dX11_redeemFrom_9 rfl ?_
  refine jj_get C jk_12 0 (by decide) jw_181 0 rfl rfl dX11_redeemFrom_10 ?_
  refine jj_bipush (v := 7) C dX11_redeemFrom_13 (by decide) ?_
  refine jj_lald (v := 0) C 1 rfl (vp_in_iff.mpr (by decide)) rfl dX11_redeemFrom_15 ?_
  refine jj_lcmp_geT (tgt := 89) C dX11_redeemFrom_16 dX11_redeemFrom_17 (by decide) (by decide) ?_
  refine jj_aload_n C dX11_redeemFrom_89 rfl ?_
  refine jq_callV (rest := []) C (ct_X11_dropEmptyLots_2 hl D cA ak h0 h1 h2 h3 h4 h5 h6 h7 h8 h9 h10 h11 h12) [0, 1] [] rfl rfl (by decide) (by decide) (by decide) 0 rfl rfl rfl jw_542 jw_543 jw_544 jw_224 jw_541 jn_X11_dropEmptyLots rfl (jj_le rfl) (jj_le rfl) (jj_le rfl) (jj_le rfl) (jj_le rfl) dX11_redeemFrom_90 rfl (fun _ _ hX => hX.elim) (fun w1 r O_2 => ?_)
  obtain ⟨rfl, rfl⟩ := O_2
  refine jj_apd rfl ?_
  refine jj_aload_n C dX11_redeemFrom_93 rfl ?_
  refine jq_callV (rest := []) C (ct_X11_closeEmpty_2 hl D cA ak h0 h1 h2 h3 h4 h5 h6 h7 h8 h9 h10 h11 h12) [0, 1] [] rfl rfl (by decide) (by decide) (by decide) 0 rfl rfl rfl jw_547 jw_548 jw_549 jw_224 jw_546 jn_X11_closeEmpty rfl (jj_le rfl) (jj_le rfl) (jj_le rfl) (jj_le rfl) (jj_le rfl) dX11_redeemFrom_94 rfl (fun _ _ hX => hX.elim) (fun w1 r O_4 => ?_)
  obtain ⟨rfl, rfl⟩ := O_4
  refine jj_apd rfl ?_
  refine jj_lload_n C dX11_redeemFrom_97 rfl ?_
  refine jj_lload C dX11_redeemFrom_98 rfl ?_
  refine jj_lsub (v := 0) C dX11_redeemFrom_100 (by decide) ?_
  exact jj_lret C ⟨rfl, rfl⟩ dX11_redeemFrom_101 (jj_le rfl) (jj_le rfl)


set_option maxHeartbeats 4000000 in
set_option maxRecDepth 100000 in
theorem ct_X11_worthOf_3 {l : Launch} (hl : l.stackTraces = false) (D : va_G) (cA : Nat → ClassId) (ak : (Nat → Nat) × (Nat → Nat)) (h0 h1 h2 h3 h4 h5 h6 h7 h8 h9 h10 h11 h12 : Nat) : jj_M l D cA ak yX11_worthOf (.code yX11_worthOf cX11_worthOf 4 (some .long)) 2 51 0 0 [(h0, .inr (12, [.ref h1, .ref h3, .ref h4, .ref h2, .ref h5, .ref h6, .int 0, .int 0, .long 0, .long 0, .ref h7, .ref h8, .ref h9, .int 0, .int 0, .int 0, .int 0, .int 0, .int (-1), .int 0, .int 0, .ref h10, .ref h11, .ref h12, .int 0])), (h1, .inl (cA 2, 334, .inr (.inl (jj_cpy (jj_cpy (vp_updL (vp_updL (fun _ => 0) 0 1) 4 100) (fun _ => 0) 334) (vp_updL (vp_updL (fun _ => 0) 0 1) 4 100) 334)))), (h2, .inl (cA 2, 334, .inr (.inl (jj_cpy (vp_updL (vp_updL (fun _ => 0) 0 1) 4 100) (fun _ => 0) 334))))] [.ref h0, .int 0] (fun (w : va_W) (r : Option Value) => (w = [(h0, .inr (12, [.ref h1, .ref h3, .ref h4, .ref h2, .ref h5, .ref h6, .int 0, .int 0, .long 0, .long 0, .ref h7, .ref h8, .ref h9, .int 0, .int 0, .int 0, .int 0, .int 0, .int (-1), .int 0, .int 0, .ref h10, .ref h11, .ref h12, .int 0])), (h2, .inl (cA 2, 334, .inr (.inl (jj_cpy (jj_cpy (jj_cpy (vp_updL (vp_updL (fun _ => 0) 0 1) 4 100) (fun _ => 0) 334) (vp_updL (vp_updL (fun _ => 0) 0 1) 4 100) 334) (jj_cpy (vp_updL (vp_updL (fun _ => 0) 0 1) 4 100) (fun _ => 0) 334) 334)))), (h1, .inl (cA 2, 334, .inr (.inl (jj_cpy (jj_cpy (jj_cpy (jj_cpy (vp_updL (vp_updL (fun _ => 0) 0 1) 4 100) (fun _ => 0) 334) (vp_updL (vp_updL (fun _ => 0) 0 1) 4 100) 334) (jj_cpy (vp_updL (vp_updL (fun _ => 0) 0 1) 4 100) (fun _ => 0) 334) 334) (jj_cpy (jj_cpy (vp_updL (vp_updL (fun _ => 0) 0 1) 4 100) (fun _ => 0) 334) (vp_updL (vp_updL (fun _ => 0) 0 1) 4 100) 334) 334))))] ∧ r = some (.long 0))) jj_noX := by
  refine jj_start hl (by decide) jw_556 (jj_le rfl) ?_
  intro p e s m args below meth c A hargs hA C hex hmn
  refine jj_aload_n C dX11_worthOf_0 rfl ?_
  refine jj_get C jk_12 0 (by decide) jw_181 0 rfl rfl dX11_worthOf_1 ?_
  refine jj_aload_n C dX11_worthOf_4 rfl ?_
  refine jj_get C jk_12 3 (by decide) jw_210 0 rfl rfl dX11_worthOf_5 ?_
  refine jq_callS (rest := []) C (ct_X11_copy_1 hl D cA ak h1 h2 (jj_cpy (jj_cpy (vp_updL (vp_updL (fun _ => 0) 0 1) 4 100) (fun _ => 0) 334) (vp_updL (vp_updL (fun _ => 0) 0 1) 4 100) 334) (jj_cpy (vp_updL (vp_updL (fun _ => 0) 0 1) 4 100) (fun _ => 0) 334)) [1, 2] [0] rfl rfl (by decide) (by decide) (by decide) jw_327 jw_328 jw_224 jw_326 jn_X11_copy rfl (jj_le rfl) (jj_le rfl) (jj_le rfl) (jj_le rfl) (jj_le rfl) dX11_worthOf_8 rfl (fun _ _ hX => hX.elim) (fun w1 r O_2 => ?_)
  obtain ⟨rfl, rfl⟩ := O_2
  refine jj_apd rfl ?_
  refine jj_aload_n C dX11_worthOf_11 rfl ?_
  refine jj_lconst (v := 0) C dX11_worthOf_12 (by decide) ?_
  refine jj_put C jk_12 9 (by decide) jw_540 rfl 0 rfl rfl rfl rfl rfl dX11_worthOf_13 ?_
  refine jj_aload_n C dX11_worthOf_16 rfl ?_
  refine jj_iload_n C dX11_worthOf_17 rfl ?_
  refine jj_aload_n C dX11_worthOf_18 rfl ?_
  refine jj_iload_n C dX11_worthOf_19 rfl ?_
  refine jq_callV (rest := [.int 0, .ref h0]) C (ct_X11_unitsBy_4 hl D cA ak h0 h1 h3 h4 h2 h5 h6 h7 h8 h9 h10 h11 h12) [0, 1] [2] rfl rfl (by decide) (by decide) (by decide) 0 rfl rfl rfl jw_381 jw_382 jw_383 jw_224 jw_380 jn_X11_unitsBy rfl (jj_le rfl) (jj_le rfl) (jj_le rfl) (jj_le rfl) (jj_le rfl) dX11_worthOf_20 rfl (fun _ _ hX => hX.elim) (fun w1 r O_4 => ?_)
  obtain ⟨rfl, rfl⟩ := O_4
  refine jj_apd rfl ?_
  refine jq_callV (rest := []) C (ct_X11_redeemFrom_3 hl D cA ak h0 h1 h3 h4 h2 h5 h6 h7 h8 h9 h10 h11 h12) [1, 2] [0] rfl rfl (by decide) (by decide) (by decide) 0 rfl rfl rfl jw_552 jw_553 jw_554 jw_224 jw_551 jn_X11_redeemFrom rfl (jj_le rfl) (jj_le rfl) (jj_le rfl) (jj_le rfl) (jj_le rfl) dX11_worthOf_23 rfl (fun _ _ hX => hX.elim) (fun w1 r O_6 => ?_)
  obtain ⟨rfl, rfl⟩ := O_6
  refine jj_apd rfl ?_
  refine jj_lstore_n C dX11_worthOf_26 (by decide) rfl ?_
  refine jj_aload_n C dX11_worthOf_27 rfl ?_
  refine jj_get C jk_12 3 (by decide) jw_210 1 rfl rfl dX11_worthOf_28 ?_
  refine jj_aload_n C dX11_worthOf_31 rfl ?_
  refine jj_get C jk_12 0 (by decide) jw_181 1 rfl rfl dX11_worthOf_32 ?_
  refine jq_callS (rest := []) C (ct_X11_copy_1 hl D cA ak h2 h1 (jj_cpy (jj_cpy (jj_cpy (vp_updL (vp_updL (fun _ => 0) 0 1) 4 100) (fun _ => 0) 334) (vp_updL (vp_updL (fun _ => 0) 0 1) 4 100) 334) (jj_cpy (vp_updL (vp_updL (fun _ => 0) 0 1) 4 100) (fun _ => 0) 334) 334) (jj_cpy (jj_cpy (vp_updL (vp_updL (fun _ => 0) 0 1) 4 100) (fun _ => 0) 334) (vp_updL (vp_updL (fun _ => 0) 0 1) 4 100) 334)) [0, 2] [1] rfl rfl (by decide) (by decide) (by decide) jw_327 jw_328 jw_224 jw_326 jn_X11_copy rfl (jj_le rfl) (jj_le rfl) (jj_le rfl) (jj_le rfl) (jj_le rfl) dX11_worthOf_35 rfl (fun _ _ hX => hX.elim) (fun w1 r O_8 => ?_)
  obtain ⟨rfl, rfl⟩ := O_8
  refine jj_apd rfl ?_
  refine jj_aload_n C dX11_worthOf_38 rfl ?_
  refine jj_get C jk_12 9 (by decide) jw_540 0 rfl rfl dX11_worthOf_39 ?_
  exact jj_lret C ⟨rfl, rfl⟩ dX11_worthOf_42 (jj_le rfl) (jj_le rfl)


set_option maxHeartbeats 4000000 in
set_option maxRecDepth 100000 in
theorem ct_X11_richest_1 {l : Launch} (hl : l.stackTraces = false) (D : va_G) (cA : Nat → ClassId) (ak : (Nat → Nat) × (Nat → Nat)) (h0 h1 h2 h3 h4 h5 h6 h7 h8 h9 h10 h11 h12 : Nat) (a0 : Int32) : jj_M l D cA ak yX11_richest (.code yX11_richest cX11_richest 9 (some .int)) 3 74 0 0 [(h0, .inr (12, [.ref h1, .ref h3, .ref h4, .ref h2, .ref h5, .ref h6, .int 0, .int 0, .long 0, .long 0, .ref h7, .ref h8, .ref h9, .int 0, .int 0, .int 0, .int 0, .int 0, .int (-1), .int 0, .int 0, .ref h10, .ref h11, .ref h12, .int 0])), (h1, .inl (cA 2, 334, .inr (.inl (vp_updL (vp_updL (fun _ => 0) 0 1) 4 100)))), (h2, .inl (cA 2, 334, .inr (.inl (fun _ => 0))))] [.ref h0, .int a0] (fun (w : va_W) (r : Option Value) => (¬ 0 = a0 ∧ w = [(h2, .inl (cA 2, 334, .inr (.inl (jj_cpy (jj_cpy (jj_cpy (vp_updL (vp_updL (fun _ => 0) 0 1) 4 100) (fun _ => 0) 334) (vp_updL (vp_updL (fun _ => 0) 0 1) 4 100) 334) (jj_cpy (vp_updL (vp_updL (fun _ => 0) 0 1) 4 100) (fun _ => 0) 334) 334)))), (h1, .inl (cA 2, 334, .inr (.inl (jj_cpy (jj_cpy (jj_cpy (jj_cpy (vp_updL (vp_updL (fun _ => 0) 0 1) 4 100) (fun _ => 0) 334) (vp_updL (vp_updL (fun _ => 0) 0 1) 4 100) 334) (jj_cpy (vp_updL (vp_updL (fun _ => 0) 0 1) 4 100) (fun _ => 0) 334) 334) (jj_cpy (jj_cpy (vp_updL (vp_updL (fun _ => 0) 0 1) 4 100) (fun _ => 0) 334) (vp_updL (vp_updL (fun _ => 0) 0 1) 4 100) 334) 334)))), (h0, .inr (12, [.ref h1, .ref h3, .ref h4, .ref h2, .ref h5, .ref h6, .int 0, .int 1, .long 0, .long 0, .ref h7, .ref h8, .ref h9, .int 0, .int 0, .int 0, .int 0, .int 0, .int (-1), .int 0, .int 0, .ref h10, .ref h11, .ref h12, .int 0]))] ∧ r = some (.int 0)) ∨ (0 = a0 ∧ w = [(h0, .inr (12, [.ref h1, .ref h3, .ref h4, .ref h2, .ref h5, .ref h6, .int 0, .int 0, .long 0, .long 0, .ref h7, .ref h8, .ref h9, .int 0, .int 0, .int 0, .int 0, .int 0, .int (-1), .int 0, .int 0, .ref h10, .ref h11, .ref h12, .int 0])), (h2, .inl (cA 2, 334, .inr (.inl (jj_cpy (jj_cpy (jj_cpy (vp_updL (vp_updL (fun _ => 0) 0 1) 4 100) (fun _ => 0) 334) (vp_updL (vp_updL (fun _ => 0) 0 1) 4 100) 334) (jj_cpy (vp_updL (vp_updL (fun _ => 0) 0 1) 4 100) (fun _ => 0) 334) 334)))), (h1, .inl (cA 2, 334, .inr (.inl (jj_cpy (jj_cpy (jj_cpy (jj_cpy (vp_updL (vp_updL (fun _ => 0) 0 1) 4 100) (fun _ => 0) 334) (vp_updL (vp_updL (fun _ => 0) 0 1) 4 100) 334) (jj_cpy (vp_updL (vp_updL (fun _ => 0) 0 1) 4 100) (fun _ => 0) 334) 334) (jj_cpy (jj_cpy (vp_updL (vp_updL (fun _ => 0) 0 1) 4 100) (fun _ => 0) 334) (vp_updL (vp_updL (fun _ => 0) 0 1) 4 100) 334) 334))))] ∧ r = some (.int 0))) jj_noX := by
  refine jj_start hl (by decide) jw_568 (jj_le rfl) ?_
  intro p e s m args below meth c A hargs hA C hex hmn
  refine jj_aload_n C dX11_richest_0 rfl ?_
  refine jj_iconst (v := 0) C dX11_richest_1 (by decide) ?_
  refine jj_put C jk_12 7 (by decide) jw_236 rfl 0 rfl rfl rfl rfl rfl dX11_richest_2 ?_
  refine jj_iconst (v := 0) C dX11_richest_5 (by decide) ?_
  refine jj_istore_n C dX11_richest_6 (by decide) rfl ?_
  refine jj_iload_n C dX11_richest_7 rfl ?_
  refine jj_i2l (v := 0) C dX11_richest_8 (by decide) ?_
  refine jj_aload_n C dX11_richest_9 rfl ?_
  refine jj_get C jk_12 0 (by decide) jw_181 0 rfl rfl dX11_richest_10 ?_
  refine jj_iconst (v := 0) C dX11_richest_13 (by decide) ?_
  refine jj_lald (v := 1) C 1 rfl (vp_in_iff.mpr (by decide)) rfl dX11_richest_14 ?_
  refine jj_lcmp_geF (tgt := 101) C dX11_richest_15 dX11_richest_16 (by decide) (by decide) ?_
  refine jj_iconst (v := 0) C dX11_richest_19 (by decide) ?_
  refine jj_istore_n C dX11_richest_20 (by decide) rfl ?_
  refine jj_aload_n C dX11_richest_21 rfl ?_
  refine jj_iload_n C dX11_richest_22 rfl ?_
  refine jq_callV (rest := []) C (ct_X11_worthOf_2 hl D cA ak h0 h1 h2 h3 h4 h5 h6 h7 h8 h9 h10 h11 h12) [0, 1, 2] [] rfl rfl (by decide) (by decide) (by decide) 0 rfl rfl rfl jw_557 jw_558 jw_559 jw_224 jw_556 jn_X11_worthOf rfl (jj_le rfl) (jj_le rfl) (jj_le rfl) (jj_le rfl) (jj_le rfl) dX11_richest_23 rfl (fun _ _ hX => hX.elim) (fun w1 r O_2 => ?_)
  obtain ⟨rfl, rfl⟩ := O_2
  refine jj_apd rfl ?_
  refine jj_lstore C dX11_richest_26 (by decide) rfl ?_
  refine jj_iconst (v := 0) C dX11_richest_28 (by decide) ?_
  refine jj_istore C dX11_richest_29 (by decide) rfl ?_
  refine jj_iload C dX11_richest_31 rfl ?_
  refine jj_i2l (v := 0) C dX11_richest_33 (by decide) ?_
  refine jj_aload_n C dX11_richest_34 rfl ?_
  refine jj_get C jk_12 0 (by decide) jw_181 0 rfl rfl dX11_richest_35 ?_
  refine jj_iconst (v := 0) C dX11_richest_38 (by decide) ?_
  refine jj_lald (v := 1) C 2 rfl (vp_in_iff.mpr (by decide)) rfl dX11_richest_39 ?_
  refine jj_lcmp_geF (tgt := 88) C dX11_richest_40 dX11_richest_41 (by decide) (by decide) ?_
  refine jj_aload_n C dX11_richest_44 rfl ?_
  refine jj_iload C dX11_richest_45 rfl ?_
  refine jq_callV (rest := []) C (ct_X11_worthOf_3 hl D cA ak h0 h1 h2 h3 h4 h5 h6 h7 h8 h9 h10 h11 h12) [0, 2, 1] [] rfl rfl (by decide) (by decide) (by decide) 0 rfl rfl rfl jw_557 jw_558 jw_559 jw_224 jw_556 jn_X11_worthOf rfl (jj_le rfl) (jj_le rfl) (jj_le rfl) (jj_le rfl) (jj_le rfl) dX11_richest_47 rfl (fun _ _ hX => hX.elim) (fun w1 r O_4 => ?_)
  obtain ⟨rfl, rfl⟩ := O_4
  refine jj_apd rfl ?_
  refine jj_lstore C dX11_richest_50 (by decide) rfl ?_
  refine jj_iload_n C dX11_richest_52 rfl ?_
  refine jj_lload C dX11_richest_53 rfl ?_
  refine jj_lload C dX11_richest_55 rfl ?_
  refine jj_lcmp_gtF (tgt := 75) C dX11_richest_57 dX11_richest_58 (by decide) (by decide) ?_
  refine jj_lload C dX11_richest_61 rfl ?_
  refine jj_lload C dX11_richest_63 rfl ?_
  refine jj_lcmp_neF (tgt := 79) C dX11_richest_65 dX11_richest_66 (by decide) (by decide) ?_
  refine jj_iload C dX11_richest_69 rfl ?_
  refine jj_iload_n C dX11_richest_71 rfl ?_
  refine jj_icmp_geT (tgt := 79) C dX11_richest_72 (by decide) (by decide) ?_
  refine jj_iconst (v := 0) C dX11_richest_79 (by decide) ?_
  refine jj_iadd (v := 0) C dX11_richest_80 (by decide) ?_
  refine jj_istore_n C dX11_richest_81 (by decide) rfl ?_
  refine jj_iinc (v := 1) C dX11_richest_82 rfl (by decide) (by decide) rfl ?_
  refine jj_goto (tgt := 31) C dX11_richest_85 (by decide) ?_
  refine jj_iload C dX11_richest_31 rfl ?_
  refine jj_i2l (v := 1) C dX11_richest_33 (by decide) ?_
  refine jj_aload_n C dX11_richest_34 rfl ?_
  refine jj_get C jk_12 0 (by decide) jw_181 0 rfl rfl dX11_richest_35 ?_
  refine jj_iconst (v := 0) C dX11_richest_38 (by decide) ?_
  refine jj_lald (v := 1) C 2 rfl (vp_in_iff.mpr (by decide)) rfl dX11_richest_39 ?_
  refine jj_lcmp_geT (tgt := 88) C dX11_richest_40 dX11_richest_41 (by decide) (by decide) ?_
  refine jj_iload_n C dX11_richest_88 rfl ?_
  refine jj_iload_n C dX11_richest_89 rfl ?_
  refine jj_icmp_ne (tgt := 95) C dX11_richest_90 (by decide) (fun c_5 => ?_) (fun c_5 => ?_)
  · refine jj_iinc (v := 1) C dX11_richest_95 rfl (by decide) (by decide) rfl ?_
    refine jj_goto (tgt := 7) C dX11_richest_98 (by decide) ?_
    refine jj_iload_n C dX11_richest_7 rfl ?_
    refine jj_i2l (v := 1) C dX11_richest_8 (by decide) ?_
    refine jj_aload_n C dX11_richest_9 rfl ?_
    refine jj_get C jk_12 0 (by decide) jw_181 0 rfl rfl dX11_richest_10 ?_
    refine jj_iconst (v := 0) C dX11_richest_13 (by decide) ?_
    refine jj_lald (v := 1) C 2 rfl (vp_in_iff.mpr (by decide)) rfl dX11_richest_14 ?_
    refine jj_lcmp_geT (tgt := 101) C dX11_richest_15 dX11_richest_16 (by decide) (by decide) ?_
    refine jj_aload_n C dX11_richest_101 rfl ?_
    refine jj_iconst (v := 1) C dX11_richest_102 (by decide) ?_
    refine jq_callV (rest := []) C (ct_X11_no_1 hl D cA ak h0 h1 h3 h4 h2 h5 h6 h7 h8 h9 h10 h11 h12) [0] [1, 2] rfl rfl (by decide) (by decide) (by decide) 0 rfl rfl rfl jw_251 jw_252 jw_253 jw_224 jw_250 jn_X11_no rfl (jj_le rfl) (jj_le rfl) (jj_le rfl) (jj_le rfl) (jj_le rfl) dX11_richest_103 rfl (fun _ _ hX => hX.elim) (fun w1 r O_7 => ?_)
    obtain ⟨rfl, rfl⟩ := O_7
    refine jj_apd rfl ?_
    exact jj_iret C (Or.inl ⟨c_5, rfl, rfl⟩) dX11_richest_106 (jj_le rfl) (jj_le rfl)
  · refine jj_iload_n C dX11_richest_93 rfl ?_
    exact jj_iret C (Or.inr ⟨c_5, rfl, rfl⟩) dX11_richest_94 (jj_le rfl) (jj_le rfl)


set_option maxHeartbeats 4000000 in
set_option maxRecDepth 100000 in
theorem ct_X10_share_1 {l : Launch} (hl : l.stackTraces = false) (D : va_G) (cA : Nat → ClassId) (ak : (Nat → Nat) × (Nat → Nat)) (h0 h1 h2 h3 h4 h5 h6 h7 h8 h9 h10 h11 : Nat) (a0 : Int32) : jj_M l D cA ak yX10_share (.code yX10_share cX10_share 5 (some .double)) 8 123 2 12 [(h0, .inr (11, [.ref h3, .int 0, .int (-1), .ref h1, .ref h4, .ref h2, .ref h5, .int 0, .int 0, .ref h6])), (h1, .inr (2, [.int 1, .int 0, .int 0, .int 0, .int 100, .int 0, .int 0, .int 0, .int 0, .int 0, .ref h7, .ref h8, .ref h9, .ref h10])), (h2, .inr (3, [.ref h11, .long 0, .long 0, .long 0, .long 0, .long 0]))] [.ref h0, .int a0] (fun (w : va_W) (r : Option Value) => False) (fun (E : String) (w : va_W) => (E = "java/lang/IndexOutOfBoundsException" ∧ a0 < 0) ∨ (E = "java/lang/IndexOutOfBoundsException" ∧ ¬ a0 < 0 ∧ 1 ≤ a0) ∨ (E = "java/lang/ArithmeticException" ∧ ¬ a0 < 0 ∧ ¬ 1 ≤ a0)) := by
  refine jj_start hl (by decide) jw_571 (jj_le rfl) ?_
  intro p e s m args below meth c A hargs hA C hex hmn
  refine jj_aload_n C dX10_share_0 rfl ?_
  refine jj_iload_n C dX10_share_1 rfl ?_
  refine jq_callV (rest := []) C (ct_X10_checkInvestor_1 hl D cA ak h0 h1 h3 h4 h2 h5 h6 h7 h8 h9 h10 a0) [0, 1] [2] rfl rfl (by decide) (by decide) (by decide) 0 rfl rfl rfl jw_513 jw_514 jw_515 jw_271 jw_512 jn_X10_checkInvestor rfl (jj_le rfl) (jj_le rfl) (jj_le rfl) (jj_le rfl) (jj_le rfl) dX10_share_2 rfl (fun E w1 X_1 => ?_) (fun w1 r O_2 => ?_)
  · rcases X_1 with ⟨rfl, c_3⟩ | ⟨rfl, c_4, c_5⟩
    · refine jj_leftY ?_
      exact jj_out C hex (Or.inl ⟨rfl, c_3⟩) (jj_le rfl) (jj_le rfl)
    · refine jj_leftY ?_
      exact jj_out C hex (Or.inr (Or.inl ⟨rfl, c_4, c_5⟩)) (jj_le rfl) (jj_le rfl)
  · obtain ⟨c_6, c_7, rfl, rfl⟩ := O_2
    refine jj_apd rfl ?_
    refine jj_lconst (v := 0) C dX10_share_5 (by decide) ?_
    refine jj_lstore_n C dX10_share_6 (by decide) rfl ?_
    refine jj_iconst (v := 0) C dX10_share_7 (by decide) ?_
    refine jj_istore C dX10_share_8 (by decide) rfl ?_
    refine jj_iload C dX10_share_10 rfl ?_
    refine jj_aload_n C dX10_share_12 rfl ?_
    refine jj_get C jk_11 3 (by decide) jw_135 1 rfl rfl dX10_share_13 ?_
    refine jj_get C jk_2 0 (by decide) jw_472 2 rfl rfl dX10_share_16 ?_
    refine jj_icmp_geF (tgt := 45) C dX10_share_19 (by decide) (by decide) ?_
    refine jj_lload_n C dX10_share_22 rfl ?_
    refine jj_aload_n C dX10_share_23 rfl ?_
    refine jj_get C jk_11 5 (by decide) jw_159 1 rfl rfl dX10_share_24 ?_
    refine jj_aload_n C dX10_share_27 rfl ?_
    refine jj_get C jk_11 3 (by decide) jw_135 1 rfl rfl dX10_share_28 ?_
    refine jj_iload C dX10_share_31 rfl ?_
    refine jj_iconst (v := 0) C dX10_share_33 (by decide) ?_
    refine jq_callV (rest := [.long 0]) C (ct_X1_payAfterRate_2 hl D cA ak h2 h1 h11 h7 h8 h9 h10 0) [0, 2] [1] rfl rfl (by decide) (by decide) (by decide) 0 rfl rfl rfl jw_535 jw_536 jw_537 jw_146 jw_534 jn_X1_payAfterRate rfl (jj_le rfl) (jj_le rfl) (jj_le rfl) (jj_le rfl) (jj_le rfl) dX10_share_34 rfl (fun _ _ hX => hX.elim) (fun w1 r O_9 => ?_)
    obtain ⟨rfl, rfl⟩ := O_9
    refine jj_apd rfl ?_
    refine jj_ladd (v := 0) C dX10_share_37 (by decide) ?_
    refine jj_lstore_n C dX10_share_38 (by decide) rfl ?_
    refine jj_iinc (v := 1) C dX10_share_39 rfl (by decide) (by decide) rfl ?_
    refine jj_goto (tgt := 10) C dX10_share_42 (by decide) ?_
    refine jj_iload C dX10_share_10 rfl ?_
    refine jj_aload_n C dX10_share_12 rfl ?_
    refine jj_get C jk_11 3 (by decide) jw_135 0 rfl rfl dX10_share_13 ?_
    refine jj_get C jk_2 0 (by decide) jw_472 2 rfl rfl dX10_share_16 ?_
    refine jj_icmp_geT (tgt := 45) C dX10_share_19 (by decide) (by decide) ?_
    refine jj_lload_n C dX10_share_45 rfl ?_
    refine jj_lconst (v := 0) C dX10_share_46 (by decide) ?_
    refine jj_lcmp_neF (tgt := 62) C dX10_share_47 dX10_share_48 (by decide) (by decide) ?_
    exact jj_throwW (k := 47) (text := "the investors have no value") C jt_RX10_333 jw_570 (by decide +kernel) dX10_share_51 dX10_share_54 dX10_share_55 dX10_share_58 dX10_share_61 hex (jj_le rfl) (jj_le rfl) (jj_le rfl) (jj_le rfl) (Or.inr (Or.inr ⟨rfl, c_6, c_7⟩)) (jj_le rfl) (jj_le rfl)


set_option maxHeartbeats 4000000 in
set_option maxRecDepth 100000 in
theorem ct_X11_share_1 {l : Launch} (hl : l.stackTraces = false) (D : va_G) (cA : Nat → ClassId) (ak : (Nat → Nat) × (Nat → Nat)) (h0 h1 h2 h3 h4 h5 h6 h7 h8 h9 h10 h11 h12 : Nat) (a0 : Int32) : jj_M l D cA ak yX11_share (.code yX11_share cX11_share 5 (some .double)) 3 74 0 0 [(h0, .inr (12, [.ref h1, .ref h3, .ref h4, .ref h2, .ref h5, .ref h6, .int 0, .int 0, .long 0, .long 0, .ref h7, .ref h8, .ref h9, .int 0, .int 0, .int 0, .int 0, .int 0, .int (-1), .int 0, .int 0, .ref h10, .ref h11, .ref h12, .int 0])), (h1, .inl (cA 2, 334, .inr (.inl (vp_updL (vp_updL (fun _ => 0) 0 1) 4 100)))), (h2, .inl (cA 2, 334, .inr (.inl (fun _ => 0))))] [.ref h0, .int a0] (fun (w : va_W) (r : Option Value) => (a0.toInt64 < 0 ∧ w = [(h2, .inl (cA 2, 334, .inr (.inl (fun _ => 0)))), (h1, .inl (cA 2, 334, .inr (.inl (vp_updL (vp_updL (fun _ => 0) 0 1) 4 100)))), (h0, .inr (12, [.ref h1, .ref h3, .ref h4, .ref h2, .ref h5, .ref h6, .int 0, .int 1, .long 0, .long 0, .ref h7, .ref h8, .ref h9, .int 0, .int 0, .int 0, .int 0, .int 0, .int (-1), .int 0, .int 0, .ref h10, .ref h11, .ref h12, .int 0]))] ∧ r = some (.double FP.dconst0)) ∨ (¬ a0.toInt64 < 0 ∧ 0 < a0.toInt64 ∧ w = [(h2, .inl (cA 2, 334, .inr (.inl (fun _ => 0)))), (h1, .inl (cA 2, 334, .inr (.inl (vp_updL (vp_updL (fun _ => 0) 0 1) 4 100)))), (h0, .inr (12, [.ref h1, .ref h3, .ref h4, .ref h2, .ref h5, .ref h6, .int 0, .int 1, .long 0, .long 0, .ref h7, .ref h8, .ref h9, .int 0, .int 0, .int 0, .int 0, .int 0, .int (-1), .int 0, .int 0, .ref h10, .ref h11, .ref h12, .int 0]))] ∧ r = some (.double FP.dconst0)) ∨ (¬ a0.toInt64 < 0 ∧ ¬ 0 < a0.toInt64 ∧ w = [(h2, .inl (cA 2, 334, .inr (.inl (jj_cpy (vp_updL (vp_updL (fun _ => 0) 0 1) 4 100) (fun _ => 0) 334)))), (h1, .inl (cA 2, 334, .inr (.inl (jj_cpy (jj_cpy (vp_updL (vp_updL (fun _ => 0) 0 1) 4 100) (fun _ => 0) 334) (vp_updL (vp_updL (fun _ => 0) 0 1) 4 100) 334)))), (h0, .inr (12, [.ref h1, .ref h3, .ref h4, .ref h2, .ref h5, .ref h6, .int 0, .int 2, .long 0, .long 0, .ref h7, .ref h8, .ref h9, .int 0, .int 0, .int 0, .int 0, .int 0, .int (-1), .int 0, .int 0, .ref h10, .ref h11, .ref h12, .int 0]))] ∧ r = some (.double FP.dconst0))) jj_noX := by
  refine jj_start hl (by decide) jw_572 (jj_le rfl) ?_
  intro p e s m args below meth c A hargs hA C hex hmn
  refine jj_aload_n C dX11_share_0 rfl ?_
  refine jj_iload_n C dX11_share_1 rfl ?_
  refine jq_callV (rest := []) C (ct_X11_isNoInvestor_1 hl D cA ak h0 h1 h3 h4 h2 h5 h6 h7 h8 h9 h10 h11 h12 a0) [0, 1] [2] rfl rfl (by decide) (by decide) (by decide) 0 rfl rfl rfl jw_311 jw_312 jw_313 jw_224 jw_310 jn_X11_isNoInvestor rfl (jj_le rfl) (jj_le rfl) (jj_le rfl) (jj_le rfl) (jj_le rfl) dX11_share_2 rfl (fun _ _ hX => hX.elim) (fun w1 r O_2 => ?_)
  rcases O_2 with ⟨c_3, rfl, rfl⟩ | ⟨c_4, c_5, rfl, rfl⟩ | ⟨c_6, c_7, rfl, rfl⟩
  · refine jj_apd rfl ?_
    refine jj_if_eqF (tgt := 10) C dX11_share_5 (by decide) (by decide) ?_
    refine jj_dconst0 C dX11_share_8 ?_
    exact jj_dret C (Or.inl ⟨c_3, rfl, rfl⟩) dX11_share_9 (jj_le rfl) (jj_le rfl)
  · refine jj_apd rfl ?_
    refine jj_if_eqF (tgt := 10) C dX11_share_5 (by decide) (by decide) ?_
    refine jj_dconst0 C dX11_share_8 ?_
    exact jj_dret C (Or.inr (Or.inl ⟨c_4, c_5, rfl, rfl⟩)) dX11_share_9 (jj_le rfl) (jj_le rfl)
  · refine jj_apd rfl ?_
    refine jj_if_eqT (tgt := 10) C dX11_share_5 (by decide) (by decide) ?_
    refine jj_lconst (v := 0) C dX11_share_10 (by decide) ?_
    refine jj_lstore_n C dX11_share_11 (by decide) rfl ?_
    refine jj_iconst (v := 0) C dX11_share_12 (by decide) ?_
    refine jj_istore C dX11_share_13 (by decide) rfl ?_
    refine jj_iload C dX11_share_15 rfl ?_
    refine jj_i2l (v := 0) C dX11_share_17 (by decide) ?_
    refine jj_aload_n C dX11_share_18 rfl ?_
    refine jj_get C jk_12 0 (by decide) jw_181 2 rfl rfl dX11_share_19 ?_
    refine jj_iconst (v := 0) C dX11_share_22 (by decide) ?_
    refine jj_lald (v := 1) C 1 rfl (vp_in_iff.mpr (by decide)) rfl dX11_share_23 ?_
    refine jj_lcmp_geF (tgt := 43) C dX11_share_24 dX11_share_25 (by decide) (by decide) ?_
    refine jj_lload_n C dX11_share_28 rfl ?_
    refine jj_aload_n C dX11_share_29 rfl ?_
    refine jj_iload C dX11_share_30 rfl ?_
    refine jq_callV (rest := [.long 0]) C (ct_X11_worthOf_2 hl D cA ak h0 h1 h2 h3 h4 h5 h6 h7 h8 h9 h10 h11 h12) [2, 1, 0] [] rfl rfl (by decide) (by decide) (by decide) 0 rfl rfl rfl jw_557 jw_558 jw_559 jw_224 jw_556 jn_X11_worthOf rfl (jj_le rfl) (jj_le rfl) (jj_le rfl) (jj_le rfl) (jj_le rfl) dX11_share_32 rfl (fun _ _ hX => hX.elim) (fun w1 r O_9 => ?_)
    obtain ⟨rfl, rfl⟩ := O_9
    refine jj_apd rfl ?_
    refine jj_ladd (v := 0) C dX11_share_35 (by decide) ?_
    refine jj_lstore_n C dX11_share_36 (by decide) rfl ?_
    refine jj_iinc (v := 1) C dX11_share_37 rfl (by decide) (by decide) rfl ?_
    refine jj_goto (tgt := 15) C dX11_share_40 (by decide) ?_
    refine jj_iload C dX11_share_15 rfl ?_
    refine jj_i2l (v := 1) C dX11_share_17 (by decide) ?_
    refine jj_aload_n C dX11_share_18 rfl ?_
    refine jj_get C jk_12 0 (by decide) jw_181 0 rfl rfl dX11_share_19 ?_
    refine jj_iconst (v := 0) C dX11_share_22 (by decide) ?_
    refine jj_lald (v := 1) C 2 rfl (vp_in_iff.mpr (by decide)) rfl dX11_share_23 ?_
    refine jj_lcmp_geT (tgt := 43) C dX11_share_24 dX11_share_25 (by decide) (by decide) ?_
    refine jj_aload_n C dX11_share_43 rfl ?_
    refine jj_lload_n C dX11_share_44 rfl ?_
    refine jj_lconst (v := 0) C dX11_share_45 (by decide) ?_
    refine jj_lcmp_neF (tgt := 54) C dX11_share_46 dX11_share_47 (by decide) (by decide) ?_
    refine jj_iconst (v := 1) C dX11_share_50 (by decide) ?_
    refine jj_goto (tgt := 55) C dX11_share_51 (by decide) ?_
    refine jj_iconst (v := 2) C dX11_share_55 (by decide) ?_
    refine jq_callV (rest := []) C (ct_X11_fails_3 hl D cA ak h0 h1 h3 h4 h2 h5 h6 h7 h8 h9 h10 h11 h12) [0] [1, 2] rfl rfl (by decide) (by decide) (by decide) 0 rfl rfl rfl jw_306 jw_307 jw_308 jw_224 jw_305 jn_X11_fails rfl (jj_le rfl) (jj_le rfl) (jj_le rfl) (jj_le rfl) (jj_le rfl) dX11_share_56 rfl (fun _ _ hX => hX.elim) (fun w1 r O_11 => ?_)
    obtain ⟨rfl, rfl⟩ := O_11
    refine jj_apd rfl ?_
    refine jj_if_eqF (tgt := 66) C dX11_share_59 (by decide) (by decide) ?_
    refine jj_dconst0 C dX11_share_62 ?_
    refine jj_goto (tgt := 75) C dX11_share_63 (by decide) ?_
    exact jj_dret C (Or.inr (Or.inr ⟨c_6, c_7, rfl, rfl⟩)) dX11_share_75 (jj_le rfl) (jj_le rfl)


set_option maxHeartbeats 4000000 in
set_option maxRecDepth 100000 in
theorem ct_X10_wouldRedeem_1 {l : Launch} (hl : l.stackTraces = false) (D : va_G) (cA : Nat → ClassId) (ak : (Nat → Nat) × (Nat → Nat)) (h0 h1 h2 h3 h4 h5 h6 h7 h8 h9 h10 : Nat) (a0 : Int32) : jj_M l D cA ak yX10_wouldRedeem (.code yX10_wouldRedeem cX10_wouldRedeem 2 (some .long)) 8 123 1 6 [(h0, .inr (11, [.ref h2, .int 0, .int (-1), .ref h1, .ref h3, .ref h4, .ref h5, .int 0, .int 0, .ref h6])), (h1, .inr (2, [.int 1, .int 0, .int 0, .int 0, .int 100, .int 0, .int 0, .int 0, .int 0, .int 0, .ref h7, .ref h8, .ref h9, .ref h10]))] [.ref h0, .int a0] (fun (w : va_W) (r : Option Value) => False) (fun (E : String) (w : va_W) => (E = "java/lang/IndexOutOfBoundsException" ∧ a0 < 0) ∨ (E = "java/lang/IndexOutOfBoundsException" ∧ ¬ a0 < 0)) := by
  refine jj_start hl (by decide) jw_573 (jj_le rfl) ?_
  intro p e s m args below meth c A hargs hA C hex hmn
  refine jj_aload_n C dX10_wouldRedeem_0 rfl ?_
  refine jj_iload_n C dX10_wouldRedeem_1 rfl ?_
  refine jq_callV (rest := []) C (ct_X10_checkRequest_1 hl D cA ak h0 h1 h2 h3 h4 h5 h6 h7 h8 h9 h10 a0) [0, 1] [] rfl rfl (by decide) (by decide) (by decide) 0 rfl rfl rfl jw_393 jw_394 jw_395 jw_271 jw_392 jn_X10_checkRequest rfl (jj_le rfl) (jj_le rfl) (jj_le rfl) (jj_le rfl) (jj_le rfl) dX10_wouldRedeem_2 rfl (fun E w1 X_1 => ?_) (fun w1 r O_2 => ?_)
  · rcases X_1 with ⟨rfl, c_3⟩ | ⟨rfl, c_4⟩
    · refine jj_leftY ?_
      exact jj_out C hex (Or.inl ⟨rfl, c_3⟩) (jj_le rfl) (jj_le rfl)
    · refine jj_leftY ?_
      exact jj_out C hex (Or.inr ⟨rfl, c_4⟩) (jj_le rfl) (jj_le rfl)
  · exact O_2.elim


set_option maxHeartbeats 4000000 in
set_option maxRecDepth 100000 in
theorem ct_X11_wouldRedeem_1 {l : Launch} (hl : l.stackTraces = false) (D : va_G) (cA : Nat → ClassId) (ak : (Nat → Nat) × (Nat → Nat)) (h0 h1 h2 h3 h4 h5 h6 h7 h8 h9 h10 h11 h12 : Nat) (a0 : Int32) : jj_M l D cA ak yX11_wouldRedeem (.code yX11_wouldRedeem cX11_wouldRedeem 2 (some .long)) 2 46 0 0 [(h0, .inr (12, [.ref h1, .ref h2, .ref h3, .ref h4, .ref h5, .ref h6, .int 0, .int 0, .long 0, .long 0, .ref h7, .ref h8, .ref h9, .int 0, .int 0, .int 0, .int 0, .int 0, .int (-1), .int 0, .int 0, .ref h10, .ref h11, .ref h12, .int 0])), (h1, .inl (cA 2, 334, .inr (.inl (vp_updL (vp_updL (fun _ => 0) 0 1) 4 100))))] [.ref h0, .int a0] (fun (w : va_W) (r : Option Value) => (a0.toInt64 < 0 ∧ w = [(h1, .inl (cA 2, 334, .inr (.inl (vp_updL (vp_updL (fun _ => 0) 0 1) 4 100)))), (h0, .inr (12, [.ref h1, .ref h2, .ref h3, .ref h4, .ref h5, .ref h6, .int 0, .int 1, .long 0, .long 0, .ref h7, .ref h8, .ref h9, .int 0, .int 0, .int 0, .int 0, .int 0, .int (-1), .int 0, .int 0, .ref h10, .ref h11, .ref h12, .int 0]))] ∧ r = some (.long 0)) ∨ (¬ a0.toInt64 < 0 ∧ w = [(h1, .inl (cA 2, 334, .inr (.inl (vp_updL (vp_updL (fun _ => 0) 0 1) 4 100)))), (h0, .inr (12, [.ref h1, .ref h2, .ref h3, .ref h4, .ref h5, .ref h6, .int 0, .int 1, .long 0, .long 0, .ref h7, .ref h8, .ref h9, .int 0, .int 0, .int 0, .int 0, .int 0, .int (-1), .int 0, .int 0, .ref h10, .ref h11, .ref h12, .int 0]))] ∧ r = some (.long 0))) jj_noX := by
  refine jj_start hl (by decide) jw_574 (jj_le rfl) ?_
  intro p e s m args below meth c A hargs hA C hex hmn
  refine jj_aload_n C dX11_wouldRedeem_0 rfl ?_
  refine jj_iload_n C dX11_wouldRedeem_1 rfl ?_
  refine jq_callV (rest := []) C (ct_X11_isNoRequest_1 hl D cA ak h0 h1 h2 h3 h4 h5 h6 h7 h8 h9 h10 h11 h12 a0) [0, 1] [] rfl rfl (by decide) (by decide) (by decide) 0 rfl rfl rfl jw_399 jw_400 jw_401 jw_224 jw_398 jn_X11_isNoRequest rfl (jj_le rfl) (jj_le rfl) (jj_le rfl) (jj_le rfl) (jj_le rfl) dX11_wouldRedeem_2 rfl (fun _ _ hX => hX.elim) (fun w1 r O_2 => ?_)
  rcases O_2 with ⟨c_3, rfl, rfl⟩ | ⟨c_4, rfl, rfl⟩
  · refine jj_apd rfl ?_
    refine jj_if_eqF (tgt := 10) C dX11_wouldRedeem_5 (by decide) (by decide) ?_
    refine jj_lconst (v := 0) C dX11_wouldRedeem_8 (by decide) ?_
    exact jj_lret C (Or.inl ⟨c_3, rfl, rfl⟩) dX11_wouldRedeem_9 (jj_le rfl) (jj_le rfl)
  · refine jj_apd rfl ?_
    refine jj_if_eqF (tgt := 10) C dX11_wouldRedeem_5 (by decide) (by decide) ?_
    refine jj_lconst (v := 0) C dX11_wouldRedeem_8 (by decide) ?_
    exact jj_lret C (Or.inr ⟨c_4, rfl, rfl⟩) dX11_wouldRedeem_9 (jj_le rfl) (jj_le rfl)


set_option maxHeartbeats 4000000 in
set_option maxRecDepth 100000 in
theorem ct_X10_dealsUntilDone_1 {l : Launch} (hl : l.stackTraces = false) (D : va_G) (cA : Nat → ClassId) (ak : (Nat → Nat) × (Nat → Nat)) (h0 h1 h2 h3 h4 h5 h6 h7 h8 h9 h10 : Nat) (a0 : Int32) : jj_M l D cA ak yX10_dealsUntilDone (.code yX10_dealsUntilDone cX10_dealsUntilDone 4 (some .int)) 8 123 1 6 [(h0, .inr (11, [.ref h2, .int 0, .int (-1), .ref h1, .ref h3, .ref h4, .ref h5, .int 0, .int 0, .ref h6])), (h1, .inr (2, [.int 1, .int 0, .int 0, .int 0, .int 100, .int 0, .int 0, .int 0, .int 0, .int 0, .ref h7, .ref h8, .ref h9, .ref h10]))] [.ref h0, .int a0] (fun (w : va_W) (r : Option Value) => False) (fun (E : String) (w : va_W) => (E = "java/lang/IndexOutOfBoundsException" ∧ a0 < 0) ∨ (E = "java/lang/IndexOutOfBoundsException" ∧ ¬ a0 < 0)) := by
  refine jj_start hl (by decide) jw_575 (jj_le rfl) ?_
  intro p e s m args below meth c A hargs hA C hex hmn
  refine jj_aload_n C dX10_dealsUntilDone_0 rfl ?_
  refine jj_iload_n C dX10_dealsUntilDone_1 rfl ?_
  refine jq_callV (rest := []) C (ct_X10_checkRequest_1 hl D cA ak h0 h1 h2 h3 h4 h5 h6 h7 h8 h9 h10 a0) [0, 1] [] rfl rfl (by decide) (by decide) (by decide) 0 rfl rfl rfl jw_393 jw_394 jw_395 jw_271 jw_392 jn_X10_checkRequest rfl (jj_le rfl) (jj_le rfl) (jj_le rfl) (jj_le rfl) (jj_le rfl) dX10_dealsUntilDone_2 rfl (fun E w1 X_1 => ?_) (fun w1 r O_2 => ?_)
  · rcases X_1 with ⟨rfl, c_3⟩ | ⟨rfl, c_4⟩
    · refine jj_leftY ?_
      exact jj_out C hex (Or.inl ⟨rfl, c_3⟩) (jj_le rfl) (jj_le rfl)
    · refine jj_leftY ?_
      exact jj_out C hex (Or.inr ⟨rfl, c_4⟩) (jj_le rfl) (jj_le rfl)
  · exact O_2.elim


set_option maxHeartbeats 4000000 in
set_option maxRecDepth 100000 in
theorem ct_X11_dealsUntilDone_1 {l : Launch} (hl : l.stackTraces = false) (D : va_G) (cA : Nat → ClassId) (ak : (Nat → Nat) × (Nat → Nat)) (h0 h1 h2 h3 h4 h5 h6 h7 h8 h9 h10 h11 h12 : Nat) (a0 : Int32) : jj_M l D cA ak yX11_dealsUntilDone (.code yX11_dealsUntilDone cX11_dealsUntilDone 4 (some .int)) 2 46 0 0 [(h0, .inr (12, [.ref h1, .ref h2, .ref h3, .ref h4, .ref h5, .ref h6, .int 0, .int 0, .long 0, .long 0, .ref h7, .ref h8, .ref h9, .int 0, .int 0, .int 0, .int 0, .int 0, .int (-1), .int 0, .int 0, .ref h10, .ref h11, .ref h12, .int 0])), (h1, .inl (cA 2, 334, .inr (.inl (vp_updL (vp_updL (fun _ => 0) 0 1) 4 100))))] [.ref h0, .int a0] (fun (w : va_W) (r : Option Value) => (a0.toInt64 < 0 ∧ w = [(h1, .inl (cA 2, 334, .inr (.inl (vp_updL (vp_updL (fun _ => 0) 0 1) 4 100)))), (h0, .inr (12, [.ref h1, .ref h2, .ref h3, .ref h4, .ref h5, .ref h6, .int 0, .int 1, .long 0, .long 0, .ref h7, .ref h8, .ref h9, .int 0, .int 0, .int 0, .int 0, .int 0, .int (-1), .int 0, .int 0, .ref h10, .ref h11, .ref h12, .int 0]))] ∧ r = some (.int 0)) ∨ (¬ a0.toInt64 < 0 ∧ w = [(h1, .inl (cA 2, 334, .inr (.inl (vp_updL (vp_updL (fun _ => 0) 0 1) 4 100)))), (h0, .inr (12, [.ref h1, .ref h2, .ref h3, .ref h4, .ref h5, .ref h6, .int 0, .int 1, .long 0, .long 0, .ref h7, .ref h8, .ref h9, .int 0, .int 0, .int 0, .int 0, .int 0, .int (-1), .int 0, .int 0, .ref h10, .ref h11, .ref h12, .int 0]))] ∧ r = some (.int 0))) jj_noX := by
  refine jj_start hl (by decide) jw_576 (jj_le rfl) ?_
  intro p e s m args below meth c A hargs hA C hex hmn
  refine jj_aload_n C dX11_dealsUntilDone_0 rfl ?_
  refine jj_iload_n C dX11_dealsUntilDone_1 rfl ?_
  refine jq_callV (rest := []) C (ct_X11_isNoRequest_1 hl D cA ak h0 h1 h2 h3 h4 h5 h6 h7 h8 h9 h10 h11 h12 a0) [0, 1] [] rfl rfl (by decide) (by decide) (by decide) 0 rfl rfl rfl jw_399 jw_400 jw_401 jw_224 jw_398 jn_X11_isNoRequest rfl (jj_le rfl) (jj_le rfl) (jj_le rfl) (jj_le rfl) (jj_le rfl) dX11_dealsUntilDone_2 rfl (fun _ _ hX => hX.elim) (fun w1 r O_2 => ?_)
  rcases O_2 with ⟨c_3, rfl, rfl⟩ | ⟨c_4, rfl, rfl⟩
  · refine jj_apd rfl ?_
    refine jj_if_eqF (tgt := 10) C dX11_dealsUntilDone_5 (by decide) (by decide) ?_
    refine jj_iconst (v := 0) C dX11_dealsUntilDone_8 (by decide) ?_
    exact jj_iret C (Or.inl ⟨c_3, rfl, rfl⟩) dX11_dealsUntilDone_9 (jj_le rfl) (jj_le rfl)
  · refine jj_apd rfl ?_
    refine jj_if_eqF (tgt := 10) C dX11_dealsUntilDone_5 (by decide) (by decide) ?_
    refine jj_iconst (v := 0) C dX11_dealsUntilDone_8 (by decide) ?_
    exact jj_iret C (Or.inr ⟨c_4, rfl, rfl⟩) dX11_dealsUntilDone_9 (jj_le rfl) (jj_le rfl)


set_option maxHeartbeats 4000000 in
set_option maxRecDepth 100000 in
theorem ct_X2_earnRate_2 {l : Launch} (hl : l.stackTraces = false) (D : va_G) (cA : Nat → ClassId) (ak : (Nat → Nat) × (Nat → Nat)) (h0 h1 h2 h3 h4 : Nat) (a0 : Int32) : jj_M l D cA ak yX2_earnRate (.code yX2_earnRate cX2_earnRate 7 (some .long)) 0 0 0 0 [(h0, .inr (2, [.int 1, .int 0, .int 0, .int 0, .int 100, .int 0, .int 0, .int 0, .int 0, .int 0, .ref h1, .ref h2, .ref h3, .ref h4])), (h1, .inl (cA 2, 6, .inr (.inl (vp_updL (vp_updL (vp_updL (vp_updL (vp_updL (vp_updL (fun _ => 0) 0 0) 1 0) 2 0) 3 0) 4 0) 5 0))))] [.ref h0, .int a0] (fun (w : va_W) (r : Option Value) => (w = [(h0, .inr (2, [.int 1, .int 0, .int 0, .int 0, .int 100, .int 0, .int 0, .int 0, .int 0, .int 0, .ref h1, .ref h2, .ref h3, .ref h4])), (h1, .inl (cA 2, 6, .inr (.inl (vp_updL (vp_updL (vp_updL (vp_updL (vp_updL (vp_updL (vp_updL (fun _ => 0) 0 0) 1 0) 2 0) 3 0) 4 0) 5 0) 4 0))))] ∧ r = some (.long 0))) jj_noX := by
  refine jj_start hl (by decide) jw_411 (jj_le rfl) ?_
  intro p e s m args below meth c A hargs hA C hex hmn
  refine jj_lconst (v := 0) C dX2_earnRate_0 (by decide) ?_
  refine jj_lstore_n C dX2_earnRate_1 (by decide) rfl ?_
  refine jj_iconst (v := 0) C dX2_earnRate_2 (by decide) ?_
  refine jj_istore C dX2_earnRate_3 (by decide) rfl ?_
  refine jj_iload C dX2_earnRate_5 rfl ?_
  refine jj_aload_n C dX2_earnRate_7 rfl ?_
  refine jj_get C jk_2 7 (by decide) jw_404 0 rfl rfl dX2_earnRate_8 ?_
  refine jj_icmp_geT (tgt := 61) C dX2_earnRate_11 (by decide) (by decide) ?_
  refine jj_aload_n C dX2_earnRate_61 rfl ?_
  refine jj_get C jk_2 10 (by decide) jw_410 0 rfl rfl dX2_earnRate_62 ?_
  refine jj_iconst (v := 4) C dX2_earnRate_65 (by decide) ?_
  refine jj_dup2 C dX2_earnRate_66 rfl rfl ?_
  refine jj_lald (v := 0) C 1 rfl (vp_in_iff.mpr (by decide)) rfl dX2_earnRate_67 ?_
  refine jj_lload_n C dX2_earnRate_68 rfl ?_
  refine jj_ladd (v := 0) C dX2_earnRate_69 (by decide) ?_
  refine jj_last C 1 rfl (vp_in_iff.mpr (by decide)) (g := (vp_updL (vp_updL (vp_updL (vp_updL (vp_updL (vp_updL (vp_updL (fun _ => 0) 0 0) 1 0) 2 0) 3 0) 4 0) 5 0) 4 0)) rfl rfl dX2_earnRate_70 ?_
  refine jj_lload_n C dX2_earnRate_71 rfl ?_
  exact jj_lret C ⟨rfl, rfl⟩ dX2_earnRate_72 (jj_le rfl) (jj_le rfl)


set_option maxHeartbeats 4000000 in
set_option maxRecDepth 100000 in
theorem ct_X10_feesIf_1 {l : Launch} (hl : l.stackTraces = false) (D : va_G) (cA : Nat → ClassId) (ak : (Nat → Nat) × (Nat → Nat)) (h0 h1 h2 h3 h4 h5 h6 h7 h8 h9 h10 h11 h12 h13 h14 : Nat) (a0 : Int32) : jj_M l D cA ak yX10_feesIf (.code yX10_feesIf cX10_feesIf 5 (some .long)) 6 82 1 6 [(h0, .inr (11, [.ref h5, .int 0, .int (-1), .ref h1, .ref h2, .ref h6, .ref h7, .int 0, .int 0, .ref h8])), (h1, .inr (2, [.int 1, .int 0, .int 0, .int 0, .int 100, .int 0, .int 0, .int 0, .int 0, .int 0, .ref h3, .ref h9, .ref h10, .ref h11])), (h2, .inr (2, [.int 1, .int 0, .int 0, .int 0, .int 100, .int 0, .int 0, .int 0, .int 0, .int 0, .ref h4, .ref h12, .ref h13, .ref h14])), (h3, .inl (cA 2, 6, .inr (.inl (fun _ => 0)))), (h4, .inl (cA 2, 6, .inr (.inl (fun _ => 0))))] [.ref h0, .int a0] (fun (w : va_W) (r : Option Value) => (¬ a0 < (-9000) ∧ a0 ≤ 9999 ∧ r = some (.long 0))) (fun (E : String) (w : va_W) => (E = "java/lang/IllegalArgumentException" ∧ a0 < (-9000)) ∨ (E = "java/lang/IllegalArgumentException" ∧ ¬ a0 < (-9000) ∧ ¬ a0 ≤ 9999)) := by
  refine jj_start hl (by decide) jw_577 (jj_le rfl) ?_
  intro p e s m args below meth c A hargs hA C hex hmn
  refine jj_iload_n C dX10_feesIf_0 rfl ?_
  refine jj_sipush (v := (-9000)) C dX10_feesIf_1 (by decide) ?_
  refine jj_icmp_lt (tgt := 14) C dX10_feesIf_4 (by decide) (fun c_1 => ?_) (fun c_1 => ?_)
  · exact jj_throwW (k := 48) (text := "no such rate") C jt_RX10_75 jw_244 (by decide +kernel) dX10_feesIf_14 dX10_feesIf_17 dX10_feesIf_18 dX10_feesIf_21 dX10_feesIf_24 hex (jj_le rfl) (jj_le rfl) (jj_le rfl) (jj_le rfl) (Or.inl ⟨rfl, c_1⟩) (jj_le rfl) (jj_le rfl)
  · refine jj_iload_n C dX10_feesIf_7 rfl ?_
    refine jj_sipush (v := 9999) C dX10_feesIf_8 (by decide) ?_
    refine jj_icmp_le (tgt := 25) C dX10_feesIf_11 (by decide) (fun c_2 => ?_) (fun c_2 => ?_)
    · refine jj_aload_n C dX10_feesIf_25 rfl ?_
      refine jj_get C jk_11 4 (by decide) jw_136 0 rfl rfl dX10_feesIf_26 ?_
      refine jj_aload_n C dX10_feesIf_29 rfl ?_
      refine jj_get C jk_11 3 (by decide) jw_135 0 rfl rfl dX10_feesIf_30 ?_
      refine jq_callV (rest := []) C (ct_X0_copyFrom_1 hl D cA ak h2 h1 h4 h3 h12 h13 h14 h9 h10 h11) [2, 1, 4, 3] [0] rfl rfl (by decide) (by decide) (by decide) 0 rfl rfl rfl jw_275 jw_276 jw_277 jw_57 jw_274 jn_X0_copyFrom rfl (jj_le rfl) (jj_le rfl) (jj_le rfl) (jj_le rfl) (jj_le rfl) dX10_feesIf_33 rfl (fun _ _ hX => hX.elim) (fun w1 r O_4 => ?_)
      obtain ⟨rfl, rfl⟩ := O_4
      refine jj_apd rfl ?_
      refine jj_aload_n C dX10_feesIf_36 rfl ?_
      refine jj_get C jk_11 4 (by decide) jw_136 0 rfl rfl dX10_feesIf_37 ?_
      refine jj_iload_n C dX10_feesIf_40 rfl ?_
      refine jq_callS (rest := []) C (ct_X2_earnRate_2 hl D cA ak h2 h4 h12 h13 h14 a0) [1, 3] [0, 2, 4] rfl rfl (by decide) (by decide) (by decide) jw_412 jw_413 jw_407 jw_411 jn_X2_earnRate rfl (jj_le rfl) (jj_le rfl) (jj_le rfl) (jj_le rfl) (jj_le rfl) dX10_feesIf_41 rfl (fun _ _ hX => hX.elim) (fun w1 r O_6 => ?_)
      obtain ⟨rfl, rfl⟩ := O_6
      refine jj_apd rfl ?_
      refine jj_pop2 C dX10_feesIf_44 rfl ?_
      refine jj_lconst (v := 0) C dX10_feesIf_45 (by decide) ?_
      refine jj_lstore_n C dX10_feesIf_46 (by decide) rfl ?_
      refine jj_iconst (v := 0) C dX10_feesIf_47 (by decide) ?_
      refine jj_istore C dX10_feesIf_48 (by decide) rfl ?_
      refine jj_iload C dX10_feesIf_50 rfl ?_
      refine jj_aload_n C dX10_feesIf_52 rfl ?_
      refine jj_get C jk_11 4 (by decide) jw_136 0 rfl rfl dX10_feesIf_53 ?_
      refine jj_get C jk_2 7 (by decide) jw_477 3 rfl rfl dX10_feesIf_56 ?_
      refine jj_icmp_geT (tgt := 91) C dX10_feesIf_59 (by decide) (by decide) ?_
      refine jj_lload_n C dX10_feesIf_91 rfl ?_
      exact jj_lret C ⟨c_1, c_2, rfl⟩ dX10_feesIf_92 (jj_le rfl) (jj_le rfl)
    · exact jj_throwW (k := 48) (text := "no such rate") C jt_RX10_75 jw_244 (by decide +kernel) dX10_feesIf_14 dX10_feesIf_17 dX10_feesIf_18 dX10_feesIf_21 dX10_feesIf_24 hex (jj_le rfl) (jj_le rfl) (jj_le rfl) (jj_le rfl) (Or.inr ⟨rfl, c_1, c_2⟩) (jj_le rfl) (jj_le rfl)


set_option maxHeartbeats 4000000 in
set_option maxRecDepth 100000 in
theorem ct_X11_gain_2 {l : Launch} (hl : l.stackTraces = false) (D : va_G) (cA : Nat → ClassId) (ak : (Nat → Nat) × (Nat → Nat)) (h0 h1 h2 h3 h4 h5 h6 h7 h8 h9 h10 h11 h12 : Nat) (a0 : Int32) : jj_M l D cA ak yX11_gain (.code yX11_gain cX11_gain 8 (some .long)) 0 0 0 0 [(h0, .inr (12, [.ref h1, .ref h2, .ref h3, .ref h4, .ref h5, .ref h6, .int 0, .int 0, .long 0, .long 0, .ref h7, .ref h8, .ref h9, .int 0, .int 0, .int 0, .int 0, .int 0, .int (-1), .int 0, .int 0, .ref h10, .ref h11, .ref h12, .int 0])), (h1, .inl (cA 2, 334, .inr (.inl (vp_updL (vp_updL (fun _ => 0) 0 1) 4 100))))] [.ref h0, .int a0] (fun (w : va_W) (r : Option Value) => (w = [(h0, .inr (12, [.ref h1, .ref h2, .ref h3, .ref h4, .ref h5, .ref h6, .int 0, .int 0, .long 0, .long 0, .ref h7, .ref h8, .ref h9, .int 0, .int 0, .int 0, .int 0, .int 0, .int (-1), .int 0, .int 0, .ref h10, .ref h11, .ref h12, .int 0])), (h1, .inl (cA 2, 334, .inr (.inl (vp_updL (vp_updL (vp_updL (fun _ => 0) 0 1) 4 100) 14 0))))] ∧ r = some (.long 0))) jj_noX := by
  refine jj_start hl (by decide) jw_427 (jj_le rfl) ?_
  intro p e s m args below meth c A hargs hA C hex hmn
  refine jj_lconst (v := 0) C dX11_gain_0 (by decide) ?_
  refine jj_lstore_n C dX11_gain_1 (by decide) rfl ?_
  refine jj_iconst (v := 0) C dX11_gain_2 (by decide) ?_
  refine jj_istore C dX11_gain_3 (by decide) rfl ?_
  refine jj_iload C dX11_gain_5 rfl ?_
  refine jj_i2l (v := 0) C dX11_gain_7 (by decide) ?_
  refine jj_aload_n C dX11_gain_8 rfl ?_
  refine jj_get C jk_12 0 (by decide) jw_181 0 rfl rfl dX11_gain_9 ?_
  refine jj_bipush (v := 6) C dX11_gain_12 (by decide) ?_
  refine jj_lald (v := 0) C 1 rfl (vp_in_iff.mpr (by decide)) rfl dX11_gain_14 ?_
  refine jj_lcmp_geT (tgt := 69) C dX11_gain_15 dX11_gain_16 (by decide) (by decide) ?_
  refine jj_aload_n C dX11_gain_69 rfl ?_
  refine jj_get C jk_12 0 (by decide) jw_181 0 rfl rfl dX11_gain_70 ?_
  refine jj_bipush (v := 14) C dX11_gain_73 (by decide) ?_
  refine jj_dup2 C dX11_gain_75 rfl rfl ?_
  refine jj_lald (v := 0) C 1 rfl (vp_in_iff.mpr (by decide)) rfl dX11_gain_76 ?_
  refine jj_lload_n C dX11_gain_77 rfl ?_
  refine jj_ladd (v := 0) C dX11_gain_78 (by decide) ?_
  refine jj_last C 1 rfl (vp_in_iff.mpr (by decide)) (g := (vp_updL (vp_updL (vp_updL (fun _ => 0) 0 1) 4 100) 14 0)) rfl rfl dX11_gain_79 ?_
  refine jj_lload_n C dX11_gain_80 rfl ?_
  exact jj_lret C ⟨rfl, rfl⟩ dX11_gain_81 (jj_le rfl) (jj_le rfl)


set_option maxHeartbeats 4000000 in
set_option maxRecDepth 100000 in
theorem ct_X11_accruedAll_1 {l : Launch} (hl : l.stackTraces = false) (D : va_G) (cA : Nat → ClassId) (ak : (Nat → Nat) × (Nat → Nat)) (h0 h1 h2 h3 h4 h5 h6 h7 h8 h9 h10 h11 h12 : Nat) : jj_M l D cA ak yX11_accruedAll (.code yX11_accruedAll cX11_accruedAll 4 (some .long)) 0 0 0 0 [(h0, .inr (12, [.ref h1, .ref h2, .ref h3, .ref h4, .ref h5, .ref h6, .int 0, .int 0, .long 0, .long 0, .ref h7, .ref h8, .ref h9, .int 0, .int 0, .int 0, .int 0, .int 0, .int (-1), .int 0, .int 0, .ref h10, .ref h11, .ref h12, .int 0])), (h1, .inl (cA 2, 334, .inr (.inl (vp_updL (vp_updL (vp_updL (fun _ => 0) 0 1) 4 100) 14 0))))] [.ref h0] (fun (w : va_W) (r : Option Value) => (w = [(h0, .inr (12, [.ref h1, .ref h2, .ref h3, .ref h4, .ref h5, .ref h6, .int 0, .int 0, .long 0, .long 0, .ref h7, .ref h8, .ref h9, .int 0, .int 0, .int 0, .int 0, .int 0, .int (-1), .int 0, .int 0, .ref h10, .ref h11, .ref h12, .int 0])), (h1, .inl (cA 2, 334, .inr (.inl (vp_updL (vp_updL (vp_updL (fun _ => 0) 0 1) 4 100) 14 0))))] ∧ r = some (.long 0))) jj_noX := by
  refine jj_start hl (by decide) jw_578 (jj_le rfl) ?_
  intro p e s m args below meth c A hargs hA C hex hmn
  refine jj_lconst (v := 0) C dX11_accruedAll_0 (by decide) ?_
  refine jj_lstore_n C dX11_accruedAll_1 (by decide) rfl ?_
  refine jj_iconst (v := 0) C dX11_accruedAll_2 (by decide) ?_
  refine jj_istore_n C dX11_accruedAll_3 (by decide) rfl ?_
  refine jj_iload_n C dX11_accruedAll_4 rfl ?_
  refine jj_i2l (v := 0) C dX11_accruedAll_5 (by decide) ?_
  refine jj_aload_n C dX11_accruedAll_6 rfl ?_
  refine jj_get C jk_12 0 (by decide) jw_181 0 rfl rfl dX11_accruedAll_7 ?_
  refine jj_bipush (v := 6) C dX11_accruedAll_10 (by decide) ?_
  refine jj_lald (v := 0) C 1 rfl (vp_in_iff.mpr (by decide)) rfl dX11_accruedAll_12 ?_
  refine jj_lcmp_geT (tgt := 34) C dX11_accruedAll_13 dX11_accruedAll_14 (by decide) (by decide) ?_
  refine jj_lload_n C dX11_accruedAll_34 rfl ?_
  exact jj_lret C ⟨rfl, rfl⟩ dX11_accruedAll_35 (jj_le rfl) (jj_le rfl)


set_option maxHeartbeats 4000000 in
set_option maxRecDepth 100000 in
theorem ct_X11_feesIf_1 {l : Launch} (hl : l.stackTraces = false) (D : va_G) (cA : Nat → ClassId) (ak : (Nat → Nat) × (Nat → Nat)) (h0 h1 h2 h3 h4 h5 h6 h7 h8 h9 h10 h11 h12 : Nat) (a0 : Int32) : jj_M l D cA ak yX11_feesIf (.code yX11_feesIf cX11_feesIf 6 (some .long)) 2 45 0 0 [(h0, .inr (12, [.ref h1, .ref h3, .ref h2, .ref h4, .ref h5, .ref h6, .int 0, .int 0, .long 0, .long 0, .ref h7, .ref h8, .ref h9, .int 0, .int 0, .int 0, .int 0, .int 0, .int (-1), .int 0, .int 0, .ref h10, .ref h11, .ref h12, .int 0])), (h1, .inl (cA 2, 334, .inr (.inl (vp_updL (vp_updL (fun _ => 0) 0 1) 4 100)))), (h2, .inl (cA 2, 334, .inr (.inl (fun _ => 0))))] [.ref h0, .int a0] (fun (w : va_W) (r : Option Value) => (a0.toInt64 < (-9000) ∧ w = [(h1, .inl (cA 2, 334, .inr (.inl (vp_updL (vp_updL (fun _ => 0) 0 1) 4 100)))), (h2, .inl (cA 2, 334, .inr (.inl (fun _ => 0)))), (h0, .inr (12, [.ref h1, .ref h3, .ref h2, .ref h4, .ref h5, .ref h6, .int 0, .int 1, .long 0, .long 0, .ref h7, .ref h8, .ref h9, .int 0, .int 0, .int 0, .int 0, .int 0, .int (-1), .int 0, .int 0, .ref h10, .ref h11, .ref h12, .int 0]))] ∧ r = some (.long 0)) ∨ (¬ a0.toInt64 < (-9000) ∧ 9999 < a0.toInt64 ∧ w = [(h1, .inl (cA 2, 334, .inr (.inl (vp_updL (vp_updL (fun _ => 0) 0 1) 4 100)))), (h2, .inl (cA 2, 334, .inr (.inl (fun _ => 0)))), (h0, .inr (12, [.ref h1, .ref h3, .ref h2, .ref h4, .ref h5, .ref h6, .int 0, .int 1, .long 0, .long 0, .ref h7, .ref h8, .ref h9, .int 0, .int 0, .int 0, .int 0, .int 0, .int (-1), .int 0, .int 0, .ref h10, .ref h11, .ref h12, .int 0]))] ∧ r = some (.long 0)) ∨ (¬ a0.toInt64 < (-9000) ∧ ¬ 9999 < a0.toInt64 ∧ w = [(h0, .inr (12, [.ref h1, .ref h3, .ref h2, .ref h4, .ref h5, .ref h6, .int 0, .int 0, .long 0, .long 0, .ref h7, .ref h8, .ref h9, .int 0, .int 0, .int 0, .int 0, .int 0, .int (-1), .int 0, .int 0, .ref h10, .ref h11, .ref h12, .int 0])), (h2, .inl (cA 2, 334, .inr (.inl (jj_cpy (vp_updL (vp_updL (fun _ => 0) 0 1) 4 100) (fun _ => 0) 334)))), (h1, .inl (cA 2, 334, .inr (.inl (jj_cpy (jj_cpy (vp_updL (vp_updL (fun _ => 0) 0 1) 4 100) (fun _ => 0) 334) (vp_updL (vp_updL (vp_updL (fun _ => 0) 0 1) 4 100) 14 0) 334))))] ∧ r = some (.long 0))) jj_noX := by
  refine jj_start hl (by decide) jw_583 (jj_le rfl) ?_
  intro p e s m args below meth c A hargs hA C hex hmn
  refine jj_aload_n C dX11_feesIf_0 rfl ?_
  refine jj_iload_n C dX11_feesIf_1 rfl ?_
  refine jq_callS (rest := [.ref h0]) C (ct_X11_isRate_1 hl D cA ak a0) [] [0, 1, 2] rfl rfl (by decide) (by decide) (by decide) jw_419 jw_420 jw_224 jw_418 jn_X11_isRate rfl (jj_le rfl) (jj_le rfl) (jj_le rfl) (jj_le rfl) (jj_le rfl) dX11_feesIf_2 rfl (fun _ _ hX => hX.elim) (fun w1 r O_2 => ?_)
  rcases O_2 with ⟨c_3, rfl, rfl⟩ | ⟨c_4, c_5, rfl, rfl⟩ | ⟨c_6, c_7, rfl, rfl⟩
  · refine jj_apd rfl ?_
    refine jj_if_neF (tgt := 12) C dX11_feesIf_5 (by decide) (by decide) ?_
    refine jj_iconst (v := 1) C dX11_feesIf_8 (by decide) ?_
    refine jj_goto (tgt := 13) C dX11_feesIf_9 (by decide) ?_
    refine jj_iconst (v := 1) C dX11_feesIf_13 (by decide) ?_
    refine jq_callV (rest := []) C (ct_X11_fails_1 hl D cA ak h0 h1 h3 h2 h4 h5 h6 h7 h8 h9 h10 h11 h12) [0] [1, 2] rfl rfl (by decide) (by decide) (by decide) 0 rfl rfl rfl jw_306 jw_307 jw_308 jw_224 jw_305 jn_X11_fails rfl (jj_le rfl) (jj_le rfl) (jj_le rfl) (jj_le rfl) (jj_le rfl) dX11_feesIf_14 rfl (fun _ _ hX => hX.elim) (fun w1 r O_9 => ?_)
    obtain ⟨rfl, rfl⟩ := O_9
    refine jj_apd rfl ?_
    refine jj_if_eqF (tgt := 22) C dX11_feesIf_17 (by decide) (by decide) ?_
    refine jj_lconst (v := 0) C dX11_feesIf_20 (by decide) ?_
    exact jj_lret C (Or.inl ⟨c_3, rfl, rfl⟩) dX11_feesIf_21 (jj_le rfl) (jj_le rfl)
  · refine jj_apd rfl ?_
    refine jj_if_neF (tgt := 12) C dX11_feesIf_5 (by decide) (by decide) ?_
    refine jj_iconst (v := 1) C dX11_feesIf_8 (by decide) ?_
    refine jj_goto (tgt := 13) C dX11_feesIf_9 (by decide) ?_
    refine jj_iconst (v := 1) C dX11_feesIf_13 (by decide) ?_
    refine jq_callV (rest := []) C (ct_X11_fails_1 hl D cA ak h0 h1 h3 h2 h4 h5 h6 h7 h8 h9 h10 h11 h12) [0] [1, 2] rfl rfl (by decide) (by decide) (by decide) 0 rfl rfl rfl jw_306 jw_307 jw_308 jw_224 jw_305 jn_X11_fails rfl (jj_le rfl) (jj_le rfl) (jj_le rfl) (jj_le rfl) (jj_le rfl) dX11_feesIf_14 rfl (fun _ _ hX => hX.elim) (fun w1 r O_11 => ?_)
    obtain ⟨rfl, rfl⟩ := O_11
    refine jj_apd rfl ?_
    refine jj_if_eqF (tgt := 22) C dX11_feesIf_17 (by decide) (by decide) ?_
    refine jj_lconst (v := 0) C dX11_feesIf_20 (by decide) ?_
    exact jj_lret C (Or.inr (Or.inl ⟨c_4, c_5, rfl, rfl⟩)) dX11_feesIf_21 (jj_le rfl) (jj_le rfl)
  · refine jj_apd rfl ?_
    refine jj_if_neT (tgt := 12) C dX11_feesIf_5 (by decide) (by decide) ?_
    refine jj_iconst (v := 0) C dX11_feesIf_12 (by decide) ?_
    refine jj_iconst (v := 1) C dX11_feesIf_13 (by decide) ?_
    refine jq_callV (rest := []) C (ct_X11_fails_2 hl D cA ak h0 h1 h3 h2 h4 h5 h6 h7 h8 h9 h10 h11 h12) [0] [1, 2] rfl rfl (by decide) (by decide) (by decide) 0 rfl rfl rfl jw_306 jw_307 jw_308 jw_224 jw_305 jn_X11_fails rfl (jj_le rfl) (jj_le rfl) (jj_le rfl) (jj_le rfl) (jj_le rfl) dX11_feesIf_14 rfl (fun _ _ hX => hX.elim) (fun w1 r O_13 => ?_)
    obtain ⟨rfl, rfl⟩ := O_13
    refine jj_apd rfl ?_
    refine jj_if_eqT (tgt := 22) C dX11_feesIf_17 (by decide) (by decide) ?_
    refine jj_aload_n C dX11_feesIf_22 rfl ?_
    refine jj_get C jk_12 0 (by decide) jw_181 2 rfl rfl dX11_feesIf_23 ?_
    refine jj_aload_n C dX11_feesIf_26 rfl ?_
    refine jj_get C jk_12 2 (by decide) jw_209 2 rfl rfl dX11_feesIf_27 ?_
    refine jq_callS (rest := []) C (ct_X11_copy_1 hl D cA ak h1 h2 (vp_updL (vp_updL (fun _ => 0) 0 1) 4 100) (fun _ => 0)) [0, 1] [2] rfl rfl (by decide) (by decide) (by decide) jw_327 jw_328 jw_224 jw_326 jn_X11_copy rfl (jj_le rfl) (jj_le rfl) (jj_le rfl) (jj_le rfl) (jj_le rfl) dX11_feesIf_30 rfl (fun _ _ hX => hX.elim) (fun w1 r O_15 => ?_)
    obtain ⟨rfl, rfl⟩ := O_15
    refine jj_apd rfl ?_
    refine jj_aload_n C dX11_feesIf_33 rfl ?_
    refine jj_iload_n C dX11_feesIf_34 rfl ?_
    refine jq_callV (rest := []) C (ct_X11_gain_2 hl D cA ak h0 h1 h3 h2 h4 h5 h6 h7 h8 h9 h10 h11 h12 a0) [0, 1] [2] rfl rfl (by decide) (by decide) (by decide) 0 rfl rfl rfl jw_428 jw_429 jw_430 jw_224 jw_427 jn_X11_gain rfl (jj_le rfl) (jj_le rfl) (jj_le rfl) (jj_le rfl) (jj_le rfl) dX11_feesIf_35 rfl (fun _ _ hX => hX.elim) (fun w1 r O_17 => ?_)
    obtain ⟨rfl, rfl⟩ := O_17
    refine jj_apd rfl ?_
    refine jj_lstore_n C dX11_feesIf_38 (by decide) rfl ?_
    refine jj_aload_n C dX11_feesIf_39 rfl ?_
    refine jq_callV (rest := []) C (ct_X11_accruedAll_1 hl D cA ak h0 h1 h3 h2 h4 h5 h6 h7 h8 h9 h10 h11 h12) [1, 2] [0] rfl rfl (by decide) (by decide) (by decide) 0 rfl rfl rfl jw_579 jw_580 jw_581 jw_224 jw_578 jn_X11_accruedAll rfl (jj_le rfl) (jj_le rfl) (jj_le rfl) (jj_le rfl) (jj_le rfl) dX11_feesIf_40 rfl (fun _ _ hX => hX.elim) (fun w1 r O_19 => ?_)
    obtain ⟨rfl, rfl⟩ := O_19
    refine jj_apd rfl ?_
    refine jj_lstore C dX11_feesIf_43 (by decide) rfl ?_
    refine jj_aload_n C dX11_feesIf_45 rfl ?_
    refine jj_get C jk_12 2 (by decide) jw_209 1 rfl rfl dX11_feesIf_46 ?_
    refine jj_aload_n C dX11_feesIf_49 rfl ?_
    refine jj_get C jk_12 0 (by decide) jw_181 1 rfl rfl dX11_feesIf_50 ?_
    refine jq_callS (rest := []) C (ct_X11_copy_1 hl D cA ak h2 h1 (jj_cpy (vp_updL (vp_updL (fun _ => 0) 0 1) 4 100) (fun _ => 0) 334) (vp_updL (vp_updL (vp_updL (fun _ => 0) 0 1) 4 100) 14 0)) [0, 2] [1] rfl rfl (by decide) (by decide) (by decide) jw_327 jw_328 jw_224 jw_326 jn_X11_copy rfl (jj_le rfl) (jj_le rfl) (jj_le rfl) (jj_le rfl) (jj_le rfl) dX11_feesIf_53 rfl (fun _ _ hX => hX.elim) (fun w1 r O_21 => ?_)
    obtain ⟨rfl, rfl⟩ := O_21
    refine jj_apd rfl ?_
    refine jj_lload C dX11_feesIf_56 rfl ?_
    exact jj_lret C (Or.inr (Or.inr ⟨c_6, c_7, rfl, rfl⟩)) dX11_feesIf_58 (jj_le rfl) (jj_le rfl)


set_option maxHeartbeats 4000000 in
set_option maxRecDepth 100000 in
theorem ct_X10_breakEven_1 {l : Launch} (hl : l.stackTraces = false) (D : va_G) (cA : Nat → ClassId) (ak : (Nat → Nat) × (Nat → Nat)) (h0 h1 h2 h3 h4 h5 h6 h7 h8 h9 h10 : Nat) (a0 : Int32) : jj_M l D cA ak yX10_breakEven (.code yX10_breakEven cX10_breakEven 7 (some .int)) 8 124 1 6 [(h0, .inr (11, [.ref h2, .int 0, .int (-1), .ref h1, .ref h3, .ref h4, .ref h5, .int 0, .int 0, .ref h6])), (h1, .inr (2, [.int 1, .int 0, .int 0, .int 0, .int 100, .int 0, .int 0, .int 0, .int 0, .int 0, .ref h7, .ref h8, .ref h9, .ref h10]))] [.ref h0, .int a0] (fun (w : va_W) (r : Option Value) => False) (fun (E : String) (w : va_W) => (E = "java/lang/IndexOutOfBoundsException")) := by
  refine jj_start hl (by decide) jw_584 (jj_le rfl) ?_
  intro p e s m args below meth c A hargs hA C hex hmn
  refine jj_aload_n C dX10_breakEven_0 rfl ?_
  refine jj_get C jk_11 3 (by decide) jw_135 0 rfl rfl dX10_breakEven_1 ?_
  refine jj_get C jk_2 11 (by decide) jw_489 1 rfl rfl dX10_breakEven_4 ?_
  refine jj_aload_n C dX10_breakEven_7 rfl ?_
  refine jj_iload_n C dX10_breakEven_8 rfl ?_
  refine jq_callV (rest := [.ref h8]) C (ct_X10_placeOf_1 hl D cA ak h0 h1 h2 h3 h4 h5 h6 h7 h8 h9 h10 a0) [0, 1] [] rfl rfl (by decide) (by decide) (by decide) 0 rfl rfl rfl jw_496 jw_497 jw_498 jw_271 jw_495 jn_X10_placeOf rfl (jj_le rfl) (jj_le rfl) (jj_le rfl) (jj_le rfl) (jj_le rfl) dX10_breakEven_9 rfl (fun E w1 X_1 => ?_) (fun w1 r O_2 => ?_)
  · obtain rfl := X_1
    refine jj_leftY ?_
    exact jj_out C hex rfl (jj_le rfl) (jj_le rfl)
  · exact O_2.elim


set_option maxHeartbeats 4000000 in
set_option maxRecDepth 100000 in
theorem ct_X11_breakEven_1 {l : Launch} (hl : l.stackTraces = false) (D : va_G) (cA : Nat → ClassId) (ak : (Nat → Nat) × (Nat → Nat)) (h0 h1 h2 h3 h4 h5 h6 h7 h8 h9 h10 h11 h12 : Nat) (a0 : Int32) : jj_M l D cA ak yX11_breakEven (.code yX11_breakEven cX11_breakEven 6 (some .int)) 1 23 0 0 [(h0, .inr (12, [.ref h1, .ref h2, .ref h3, .ref h4, .ref h5, .ref h6, .int 0, .int 0, .long 0, .long 0, .ref h7, .ref h8, .ref h9, .int 0, .int 0, .int 0, .int 0, .int 0, .int (-1), .int 0, .int 0, .ref h10, .ref h11, .ref h12, .int 0])), (h1, .inl (cA 2, 334, .inr (.inl (vp_updL (vp_updL (fun _ => 0) 0 1) 4 100))))] [.ref h0, .int a0] (fun (w : va_W) (r : Option Value) => (w = [(h1, .inl (cA 2, 334, .inr (.inl (vp_updL (vp_updL (fun _ => 0) 0 1) 4 100)))), (h0, .inr (12, [.ref h1, .ref h2, .ref h3, .ref h4, .ref h5, .ref h6, .int 0, .int 1, .long 0, .long 0, .ref h7, .ref h8, .ref h9, .int 0, .int 0, .int 0, .int 0, .int 0, .int (-1), .int 0, .int 0, .ref h10, .ref h11, .ref h12, .int 0]))] ∧ r = some (.int 0))) jj_noX := by
  refine jj_start hl (by decide) jw_585 (jj_le rfl) ?_
  intro p e s m args below meth c A hargs hA C hex hmn
  refine jj_aload_n C dX11_breakEven_0 rfl ?_
  refine jj_iload_n C dX11_breakEven_1 rfl ?_
  refine jj_i2l C dX11_breakEven_2 rfl ?_
  refine jq_callV (rest := []) C (ct_X11_placeOf_1 hl D cA ak h0 h1 h2 h3 h4 h5 h6 h7 h8 h9 h10 h11 h12 a0.toInt64) [0, 1] [] rfl rfl (by decide) (by decide) (by decide) 0 rfl rfl rfl jw_502 jw_503 jw_504 jw_224 jw_501 jn_X11_placeOf rfl (jj_le rfl) (jj_le rfl) (jj_le rfl) (jj_le rfl) (jj_le rfl) dX11_breakEven_3 rfl (fun _ _ hX => hX.elim) (fun w1 r O_2 => ?_)
  obtain ⟨rfl, rfl⟩ := O_2
  refine jj_apd rfl ?_
  refine jj_istore_n C dX11_breakEven_6 (by decide) rfl ?_
  refine jj_aload_n C dX11_breakEven_7 rfl ?_
  refine jj_iload_n C dX11_breakEven_8 rfl ?_
  refine jj_iconst (v := (-1)) C dX11_breakEven_9 (by decide) ?_
  refine jj_icmp_neF (tgt := 17) C dX11_breakEven_10 (by decide) (by decide) ?_
  refine jj_iconst (v := 1) C dX11_breakEven_13 (by decide) ?_
  refine jj_goto (tgt := 18) C dX11_breakEven_14 (by decide) ?_
  refine jj_iconst (v := 1) C dX11_breakEven_18 (by decide) ?_
  refine jq_callV (rest := []) C (ct_X11_fails_1 hl D cA ak h0 h1 h2 h3 h4 h5 h6 h7 h8 h9 h10 h11 h12) [0] [1] rfl rfl (by decide) (by decide) (by decide) 0 rfl rfl rfl jw_306 jw_307 jw_308 jw_224 jw_305 jn_X11_fails rfl (jj_le rfl) (jj_le rfl) (jj_le rfl) (jj_le rfl) (jj_le rfl) dX11_breakEven_19 rfl (fun _ _ hX => hX.elim) (fun w1 r O_4 => ?_)
  obtain ⟨rfl, rfl⟩ := O_4
  refine jj_apd rfl ?_
  refine jj_if_eqF (tgt := 27) C dX11_breakEven_22 (by decide) (by decide) ?_
  refine jj_iconst (v := 0) C dX11_breakEven_25 (by decide) ?_
  exact jj_iret C ⟨rfl, rfl⟩ dX11_breakEven_26 (jj_le rfl) (jj_le rfl)


set_option maxHeartbeats 4000000 in
set_option maxRecDepth 100000 in
theorem ct_X0_fallOfPay_1 {l : Launch} (hl : l.stackTraces = false) (D : va_G) (cA : Nat → ClassId) (ak : (Nat → Nat) × (Nat → Nat)) (h0 h1 h2 h3 h4 : Nat) (a0 : Int32) : jj_M l D cA ak yX0_fallOfPay (.code yX0_fallOfPay cX0_fallOfPay 5 (some .long)) 0 0 0 0 [(h0, .inr (2, [.int 1, .int 0, .int 0, .int 0, .int 100, .int 0, .int 0, .int 0, .int 0, .int 0, .ref h1, .ref h2, .ref h3, .ref h4]))] [.ref h0, .int a0] (fun (w : va_W) (r : Option Value) => (w = [(h0, .inr (2, [.int 1, .int 0, .int 0, .int 0, .int 100, .int 0, .int 0, .int 0, .int 0, .int 0, .ref h1, .ref h2, .ref h3, .ref h4]))] ∧ r = some (.long 0))) jj_noX := by
  refine jj_start hl (by decide) jw_586 (jj_le rfl) ?_
  intro p e s m args below meth c A hargs hA C hex hmn
  refine jj_lconst (v := 0) C dX0_fallOfPay_0 (by decide) ?_
  refine jj_lstore_n C dX0_fallOfPay_1 (by decide) rfl ?_
  refine jj_iconst (v := 0) C dX0_fallOfPay_2 (by decide) ?_
  refine jj_istore C dX0_fallOfPay_3 (by decide) rfl ?_
  refine jj_iload C dX0_fallOfPay_5 rfl ?_
  refine jj_aload_n C dX0_fallOfPay_7 rfl ?_
  refine jj_get C jk_2 8 (by decide) jw_67 0 rfl rfl dX0_fallOfPay_8 ?_
  refine jj_icmp_geT (tgt := 79) C dX0_fallOfPay_11 (by decide) (by decide) ?_
  refine jj_lload_n C dX0_fallOfPay_79 rfl ?_
  exact jj_lret C ⟨rfl, rfl⟩ dX0_fallOfPay_80 (jj_le rfl) (jj_le rfl)


set_option maxHeartbeats 4000000 in
set_option maxRecDepth 100000 in
theorem ct_J9_floorDiv_7cf53_1 {l : Launch} (hl : l.stackTraces = false) (D : va_G) (cA : Nat → ClassId) (ak : (Nat → Nat) × (Nat → Nat)) : jj_M l D cA ak yJ9_floorDiv_7cf53 (.code yJ9_floorDiv_7cf53 cJ9_floorDiv_7cf53 3 (some .int)) 0 0 0 0 [] [.int 1000, .int 2] (fun (w : va_W) (r : Option Value) => (w = [] ∧ r = some (.int 500))) jj_noX := by
  refine jq_startF hl (by decide +kernel) jw_591 (jj_le rfl) ?_
  intro p e s m args below meth c A hargs hA C hex hmn
  refine jj_iload_n C dJ9_floorDiv_7cf53_0 rfl ?_
  refine jj_iload_n C dJ9_floorDiv_7cf53_1 rfl ?_
  refine jj_idiv (v := 500) C dJ9_floorDiv_7cf53_2 (by decide) (by decide) ?_
  refine jj_istore_n C dJ9_floorDiv_7cf53_3 (by decide) rfl ?_
  refine jj_iload_n C dJ9_floorDiv_7cf53_4 rfl ?_
  refine jj_iload_n C dJ9_floorDiv_7cf53_5 rfl ?_
  refine jj_ixor (v := 1002) C dJ9_floorDiv_7cf53_6 (by decide) ?_
  refine jj_if_geT (tgt := 21) C dJ9_floorDiv_7cf53_7 (by decide) (by decide) ?_
  refine jj_iload_n C dJ9_floorDiv_7cf53_21 rfl ?_
  exact jj_iret C ⟨rfl, rfl⟩ dJ9_floorDiv_7cf53_22 (jj_le rfl) (jj_le rfl)


set_option maxHeartbeats 4000000 in
set_option maxRecDepth 100000 in
theorem ct_J9_floorDiv_7cf53_2 {l : Launch} (hl : l.stackTraces = false) (D : va_G) (cA : Nat → ClassId) (ak : (Nat → Nat) × (Nat → Nat)) : jj_M l D cA ak yJ9_floorDiv_7cf53 (.code yJ9_floorDiv_7cf53 cJ9_floorDiv_7cf53 3 (some .int)) 0 0 0 0 [] [.int (-8500), .int 2] (fun (w : va_W) (r : Option Value) => (w = [] ∧ r = some (.int (-4250)))) jj_noX := by
  refine jq_startF hl (by decide +kernel) jw_591 (jj_le rfl) ?_
  intro p e s m args below meth c A hargs hA C hex hmn
  refine jj_iload_n C dJ9_floorDiv_7cf53_0 rfl ?_
  refine jj_iload_n C dJ9_floorDiv_7cf53_1 rfl ?_
  refine jj_idiv (v := (-4250)) C dJ9_floorDiv_7cf53_2 (by decide) (by decide) ?_
  refine jj_istore_n C dJ9_floorDiv_7cf53_3 (by decide) rfl ?_
  refine jj_iload_n C dJ9_floorDiv_7cf53_4 rfl ?_
  refine jj_iload_n C dJ9_floorDiv_7cf53_5 rfl ?_
  refine jj_ixor (v := (-8498)) C dJ9_floorDiv_7cf53_6 (by decide) ?_
  refine jj_if_geF (tgt := 21) C dJ9_floorDiv_7cf53_7 (by decide) (by decide) ?_
  refine jj_iload_n C dJ9_floorDiv_7cf53_10 rfl ?_
  refine jj_iload_n C dJ9_floorDiv_7cf53_11 rfl ?_
  refine jj_imul (v := (-8500)) C dJ9_floorDiv_7cf53_12 (by decide) ?_
  refine jj_iload_n C dJ9_floorDiv_7cf53_13 rfl ?_
  refine jj_icmp_eqT (tgt := 21) C dJ9_floorDiv_7cf53_14 (by decide) (by decide) ?_
  refine jj_iload_n C dJ9_floorDiv_7cf53_21 rfl ?_
  exact jj_iret C ⟨rfl, rfl⟩ dJ9_floorDiv_7cf53_22 (jj_le rfl) (jj_le rfl)


set_option maxHeartbeats 4000000 in
set_option maxRecDepth 100000 in
theorem ct_J9_floorDiv_7cf53_3 {l : Launch} (hl : l.stackTraces = false) (D : va_G) (cA : Nat → ClassId) (ak : (Nat → Nat) × (Nat → Nat)) : jj_M l D cA ak yJ9_floorDiv_7cf53 (.code yJ9_floorDiv_7cf53 cJ9_floorDiv_7cf53 3 (some .int)) 0 0 0 0 [] [.int (-13250), .int 2] (fun (w : va_W) (r : Option Value) => (w = [] ∧ r = some (.int (-6625)))) jj_noX := by
  refine jq_startF hl (by decide +kernel) jw_591 (jj_le rfl) ?_
  intro p e s m args below meth c A hargs hA C hex hmn
  refine jj_iload_n C dJ9_floorDiv_7cf53_0 rfl ?_
  refine jj_iload_n C dJ9_floorDiv_7cf53_1 rfl ?_
  refine jj_idiv (v := (-6625)) C dJ9_floorDiv_7cf53_2 (by decide) (by decide) ?_
  refine jj_istore_n C dJ9_floorDiv_7cf53_3 (by decide) rfl ?_
  refine jj_iload_n C dJ9_floorDiv_7cf53_4 rfl ?_
  refine jj_iload_n C dJ9_floorDiv_7cf53_5 rfl ?_
  refine jj_ixor (v := (-13252)) C dJ9_floorDiv_7cf53_6 (by decide) ?_
  refine jj_if_geF (tgt := 21) C dJ9_floorDiv_7cf53_7 (by decide) (by decide) ?_
  refine jj_iload_n C dJ9_floorDiv_7cf53_10 rfl ?_
  refine jj_iload_n C dJ9_floorDiv_7cf53_11 rfl ?_
  refine jj_imul (v := (-13250)) C dJ9_floorDiv_7cf53_12 (by decide) ?_
  refine jj_iload_n C dJ9_floorDiv_7cf53_13 rfl ?_
  refine jj_icmp_eqT (tgt := 21) C dJ9_floorDiv_7cf53_14 (by decide) (by decide) ?_
  refine jj_iload_n C dJ9_floorDiv_7cf53_21 rfl ?_
  exact jj_iret C ⟨rfl, rfl⟩ dJ9_floorDiv_7cf53_22 (jj_le rfl) (jj_le rfl)


set_option maxHeartbeats 4000000 in
set_option maxRecDepth 100000 in
theorem ct_J9_floorDiv_7cf53_4 {l : Launch} (hl : l.stackTraces = false) (D : va_G) (cA : Nat → ClassId) (ak : (Nat → Nat) × (Nat → Nat)) : jj_M l D cA ak yJ9_floorDiv_7cf53 (.code yJ9_floorDiv_7cf53 cJ9_floorDiv_7cf53 3 (some .int)) 0 0 0 0 [] [.int (-15625), .int 2] (fun (w : va_W) (r : Option Value) => (w = [] ∧ r = some (.int (-7813)))) jj_noX := by
  refine jq_startF hl (by decide +kernel) jw_591 (jj_le rfl) ?_
  intro p e s m args below meth c A hargs hA C hex hmn
  refine jj_iload_n C dJ9_floorDiv_7cf53_0 rfl ?_
  refine jj_iload_n C dJ9_floorDiv_7cf53_1 rfl ?_
  refine jj_idiv (v := (-7812)) C dJ9_floorDiv_7cf53_2 (by decide) (by decide) ?_
  refine jj_istore_n C dJ9_floorDiv_7cf53_3 (by decide) rfl ?_
  refine jj_iload_n C dJ9_floorDiv_7cf53_4 rfl ?_
  refine jj_iload_n C dJ9_floorDiv_7cf53_5 rfl ?_
  refine jj_ixor (v := (-15627)) C dJ9_floorDiv_7cf53_6 (by decide) ?_
  refine jj_if_geF (tgt := 21) C dJ9_floorDiv_7cf53_7 (by decide) (by decide) ?_
  refine jj_iload_n C dJ9_floorDiv_7cf53_10 rfl ?_
  refine jj_iload_n C dJ9_floorDiv_7cf53_11 rfl ?_
  refine jj_imul (v := (-15624)) C dJ9_floorDiv_7cf53_12 (by decide) ?_
  refine jj_iload_n C dJ9_floorDiv_7cf53_13 rfl ?_
  refine jj_icmp_eqF (tgt := 21) C dJ9_floorDiv_7cf53_14 (by decide) (by decide) ?_
  refine jj_iload_n C dJ9_floorDiv_7cf53_17 rfl ?_
  refine jj_iconst (v := 1) C dJ9_floorDiv_7cf53_18 (by decide) ?_
  refine jj_isub (v := (-7813)) C dJ9_floorDiv_7cf53_19 (by decide) ?_
  exact jj_iret C ⟨rfl, rfl⟩ dJ9_floorDiv_7cf53_20 (jj_le rfl) (jj_le rfl)


set_option maxHeartbeats 4000000 in
set_option maxRecDepth 100000 in
theorem ct_J9_floorDiv_7cf53_5 {l : Launch} (hl : l.stackTraces = false) (D : va_G) (cA : Nat → ClassId) (ak : (Nat → Nat) × (Nat → Nat)) : jj_M l D cA ak yJ9_floorDiv_7cf53 (.code yJ9_floorDiv_7cf53 cJ9_floorDiv_7cf53 3 (some .int)) 0 0 0 0 [] [.int (-16813), .int 2] (fun (w : va_W) (r : Option Value) => (w = [] ∧ r = some (.int (-8407)))) jj_noX := by
  refine jq_startF hl (by decide +kernel) jw_591 (jj_le rfl) ?_
  intro p e s m args below meth c A hargs hA C hex hmn
  refine jj_iload_n C dJ9_floorDiv_7cf53_0 rfl ?_
  refine jj_iload_n C dJ9_floorDiv_7cf53_1 rfl ?_
  refine jj_idiv (v := (-8406)) C dJ9_floorDiv_7cf53_2 (by decide) (by decide) ?_
  refine jj_istore_n C dJ9_floorDiv_7cf53_3 (by decide) rfl ?_
  refine jj_iload_n C dJ9_floorDiv_7cf53_4 rfl ?_
  refine jj_iload_n C dJ9_floorDiv_7cf53_5 rfl ?_
  refine jj_ixor (v := (-16815)) C dJ9_floorDiv_7cf53_6 (by decide) ?_
  refine jj_if_geF (tgt := 21) C dJ9_floorDiv_7cf53_7 (by decide) (by decide) ?_
  refine jj_iload_n C dJ9_floorDiv_7cf53_10 rfl ?_
  refine jj_iload_n C dJ9_floorDiv_7cf53_11 rfl ?_
  refine jj_imul (v := (-16812)) C dJ9_floorDiv_7cf53_12 (by decide) ?_
  refine jj_iload_n C dJ9_floorDiv_7cf53_13 rfl ?_
  refine jj_icmp_eqF (tgt := 21) C dJ9_floorDiv_7cf53_14 (by decide) (by decide) ?_
  refine jj_iload_n C dJ9_floorDiv_7cf53_17 rfl ?_
  refine jj_iconst (v := 1) C dJ9_floorDiv_7cf53_18 (by decide) ?_
  refine jj_isub (v := (-8407)) C dJ9_floorDiv_7cf53_19 (by decide) ?_
  exact jj_iret C ⟨rfl, rfl⟩ dJ9_floorDiv_7cf53_20 (jj_le rfl) (jj_le rfl)


set_option maxHeartbeats 4000000 in
set_option maxRecDepth 100000 in
theorem ct_J9_floorDiv_7cf53_6 {l : Launch} (hl : l.stackTraces = false) (D : va_G) (cA : Nat → ClassId) (ak : (Nat → Nat) × (Nat → Nat)) : jj_M l D cA ak yJ9_floorDiv_7cf53 (.code yJ9_floorDiv_7cf53 cJ9_floorDiv_7cf53 3 (some .int)) 0 0 0 0 [] [.int (-17407), .int 2] (fun (w : va_W) (r : Option Value) => (w = [] ∧ r = some (.int (-8704)))) jj_noX := by
  refine jq_startF hl (by decide +kernel) jw_591 (jj_le rfl) ?_
  intro p e s m args below meth c A hargs hA C hex hmn
  refine jj_iload_n C dJ9_floorDiv_7cf53_0 rfl ?_
  refine jj_iload_n C dJ9_floorDiv_7cf53_1 rfl ?_
  refine jj_idiv (v := (-8703)) C dJ9_floorDiv_7cf53_2 (by decide) (by decide) ?_
  refine jj_istore_n C dJ9_floorDiv_7cf53_3 (by decide) rfl ?_
  refine jj_iload_n C dJ9_floorDiv_7cf53_4 rfl ?_
  refine jj_iload_n C dJ9_floorDiv_7cf53_5 rfl ?_
  refine jj_ixor (v := (-17405)) C dJ9_floorDiv_7cf53_6 (by decide) ?_
  refine jj_if_geF (tgt := 21) C dJ9_floorDiv_7cf53_7 (by decide) (by decide) ?_
  refine jj_iload_n C dJ9_floorDiv_7cf53_10 rfl ?_
  refine jj_iload_n C dJ9_floorDiv_7cf53_11 rfl ?_
  refine jj_imul (v := (-17406)) C dJ9_floorDiv_7cf53_12 (by decide) ?_
  refine jj_iload_n C dJ9_floorDiv_7cf53_13 rfl ?_
  refine jj_icmp_eqF (tgt := 21) C dJ9_floorDiv_7cf53_14 (by decide) (by decide) ?_
  refine jj_iload_n C dJ9_floorDiv_7cf53_17 rfl ?_
  refine jj_iconst (v := 1) C dJ9_floorDiv_7cf53_18 (by decide) ?_
  refine jj_isub (v := (-8704)) C dJ9_floorDiv_7cf53_19 (by decide) ?_
  exact jj_iret C ⟨rfl, rfl⟩ dJ9_floorDiv_7cf53_20 (jj_le rfl) (jj_le rfl)


set_option maxHeartbeats 4000000 in
set_option maxRecDepth 100000 in
theorem ct_J9_floorDiv_7cf53_7 {l : Launch} (hl : l.stackTraces = false) (D : va_G) (cA : Nat → ClassId) (ak : (Nat → Nat) × (Nat → Nat)) : jj_M l D cA ak yJ9_floorDiv_7cf53 (.code yJ9_floorDiv_7cf53 cJ9_floorDiv_7cf53 3 (some .int)) 0 0 0 0 [] [.int (-17704), .int 2] (fun (w : va_W) (r : Option Value) => (w = [] ∧ r = some (.int (-8852)))) jj_noX := by
  refine jq_startF hl (by decide +kernel) jw_591 (jj_le rfl) ?_
  intro p e s m args below meth c A hargs hA C hex hmn
  refine jj_iload_n C dJ9_floorDiv_7cf53_0 rfl ?_
  refine jj_iload_n C dJ9_floorDiv_7cf53_1 rfl ?_
  refine jj_idiv (v := (-8852)) C dJ9_floorDiv_7cf53_2 (by decide) (by decide) ?_
  refine jj_istore_n C dJ9_floorDiv_7cf53_3 (by decide) rfl ?_
  refine jj_iload_n C dJ9_floorDiv_7cf53_4 rfl ?_
  refine jj_iload_n C dJ9_floorDiv_7cf53_5 rfl ?_
  refine jj_ixor (v := (-17702)) C dJ9_floorDiv_7cf53_6 (by decide) ?_
  refine jj_if_geF (tgt := 21) C dJ9_floorDiv_7cf53_7 (by decide) (by decide) ?_
  refine jj_iload_n C dJ9_floorDiv_7cf53_10 rfl ?_
  refine jj_iload_n C dJ9_floorDiv_7cf53_11 rfl ?_
  refine jj_imul (v := (-17704)) C dJ9_floorDiv_7cf53_12 (by decide) ?_
  refine jj_iload_n C dJ9_floorDiv_7cf53_13 rfl ?_
  refine jj_icmp_eqT (tgt := 21) C dJ9_floorDiv_7cf53_14 (by decide) (by decide) ?_
  refine jj_iload_n C dJ9_floorDiv_7cf53_21 rfl ?_
  exact jj_iret C ⟨rfl, rfl⟩ dJ9_floorDiv_7cf53_22 (jj_le rfl) (jj_le rfl)


set_option maxHeartbeats 4000000 in
set_option maxRecDepth 100000 in
theorem ct_J9_floorDiv_7cf53_8 {l : Launch} (hl : l.stackTraces = false) (D : va_G) (cA : Nat → ClassId) (ak : (Nat → Nat) × (Nat → Nat)) : jj_M l D cA ak yJ9_floorDiv_7cf53 (.code yJ9_floorDiv_7cf53 cJ9_floorDiv_7cf53 3 (some .int)) 0 0 0 0 [] [.int (-17852), .int 2] (fun (w : va_W) (r : Option Value) => (w = [] ∧ r = some (.int (-8926)))) jj_noX := by
  refine jq_startF hl (by decide +kernel) jw_591 (jj_le rfl) ?_
  intro p e s m args below meth c A hargs hA C hex hmn
  refine jj_iload_n C dJ9_floorDiv_7cf53_0 rfl ?_
  refine jj_iload_n C dJ9_floorDiv_7cf53_1 rfl ?_
  refine jj_idiv (v := (-8926)) C dJ9_floorDiv_7cf53_2 (by decide) (by decide) ?_
  refine jj_istore_n C dJ9_floorDiv_7cf53_3 (by decide) rfl ?_
  refine jj_iload_n C dJ9_floorDiv_7cf53_4 rfl ?_
  refine jj_iload_n C dJ9_floorDiv_7cf53_5 rfl ?_
  refine jj_ixor (v := (-17850)) C dJ9_floorDiv_7cf53_6 (by decide) ?_
  refine jj_if_geF (tgt := 21) C dJ9_floorDiv_7cf53_7 (by decide) (by decide) ?_
  refine jj_iload_n C dJ9_floorDiv_7cf53_10 rfl ?_
  refine jj_iload_n C dJ9_floorDiv_7cf53_11 rfl ?_
  refine jj_imul (v := (-17852)) C dJ9_floorDiv_7cf53_12 (by decide) ?_
  refine jj_iload_n C dJ9_floorDiv_7cf53_13 rfl ?_
  refine jj_icmp_eqT (tgt := 21) C dJ9_floorDiv_7cf53_14 (by decide) (by decide) ?_
  refine jj_iload_n C dJ9_floorDiv_7cf53_21 rfl ?_
  exact jj_iret C ⟨rfl, rfl⟩ dJ9_floorDiv_7cf53_22 (jj_le rfl) (jj_le rfl)


set_option maxHeartbeats 4000000 in
set_option maxRecDepth 100000 in
theorem ct_J9_floorDiv_7cf53_9 {l : Launch} (hl : l.stackTraces = false) (D : va_G) (cA : Nat → ClassId) (ak : (Nat → Nat) × (Nat → Nat)) : jj_M l D cA ak yJ9_floorDiv_7cf53 (.code yJ9_floorDiv_7cf53 cJ9_floorDiv_7cf53 3 (some .int)) 0 0 0 0 [] [.int (-17926), .int 2] (fun (w : va_W) (r : Option Value) => (w = [] ∧ r = some (.int (-8963)))) jj_noX := by
  refine jq_startF hl (by decide +kernel) jw_591 (jj_le rfl) ?_
  intro p e s m args below meth c A hargs hA C hex hmn
  refine jj_iload_n C dJ9_floorDiv_7cf53_0 rfl ?_
  refine jj_iload_n C dJ9_floorDiv_7cf53_1 rfl ?_
  refine jj_idiv (v := (-8963)) C dJ9_floorDiv_7cf53_2 (by decide) (by decide) ?_
  refine jj_istore_n C dJ9_floorDiv_7cf53_3 (by decide) rfl ?_
  refine jj_iload_n C dJ9_floorDiv_7cf53_4 rfl ?_
  refine jj_iload_n C dJ9_floorDiv_7cf53_5 rfl ?_
  refine jj_ixor (v := (-17928)) C dJ9_floorDiv_7cf53_6 (by decide) ?_
  refine jj_if_geF (tgt := 21) C dJ9_floorDiv_7cf53_7 (by decide) (by decide) ?_
  refine jj_iload_n C dJ9_floorDiv_7cf53_10 rfl ?_
  refine jj_iload_n C dJ9_floorDiv_7cf53_11 rfl ?_
  refine jj_imul (v := (-17926)) C dJ9_floorDiv_7cf53_12 (by decide) ?_
  refine jj_iload_n C dJ9_floorDiv_7cf53_13 rfl ?_
  refine jj_icmp_eqT (tgt := 21) C dJ9_floorDiv_7cf53_14 (by decide) (by decide) ?_
  refine jj_iload_n C dJ9_floorDiv_7cf53_21 rfl ?_
  exact jj_iret C ⟨rfl, rfl⟩ dJ9_floorDiv_7cf53_22 (jj_le rfl) (jj_le rfl)


set_option maxHeartbeats 4000000 in
set_option maxRecDepth 100000 in
theorem ct_J9_floorDiv_7cf53_10 {l : Launch} (hl : l.stackTraces = false) (D : va_G) (cA : Nat → ClassId) (ak : (Nat → Nat) × (Nat → Nat)) : jj_M l D cA ak yJ9_floorDiv_7cf53 (.code yJ9_floorDiv_7cf53 cJ9_floorDiv_7cf53 3 (some .int)) 0 0 0 0 [] [.int (-17963), .int 2] (fun (w : va_W) (r : Option Value) => (w = [] ∧ r = some (.int (-8982)))) jj_noX := by
  refine jq_startF hl (by decide +kernel) jw_591 (jj_le rfl) ?_
  intro p e s m args below meth c A hargs hA C hex hmn
  refine jj_iload_n C dJ9_floorDiv_7cf53_0 rfl ?_
  refine jj_iload_n C dJ9_floorDiv_7cf53_1 rfl ?_
  refine jj_idiv (v := (-8981)) C dJ9_floorDiv_7cf53_2 (by decide) (by decide) ?_
  refine jj_istore_n C dJ9_floorDiv_7cf53_3 (by decide) rfl ?_
  refine jj_iload_n C dJ9_floorDiv_7cf53_4 rfl ?_
  refine jj_iload_n C dJ9_floorDiv_7cf53_5 rfl ?_
  refine jj_ixor (v := (-17961)) C dJ9_floorDiv_7cf53_6 (by decide) ?_
  refine jj_if_geF (tgt := 21) C dJ9_floorDiv_7cf53_7 (by decide) (by decide) ?_
  refine jj_iload_n C dJ9_floorDiv_7cf53_10 rfl ?_
  refine jj_iload_n C dJ9_floorDiv_7cf53_11 rfl ?_
  refine jj_imul (v := (-17962)) C dJ9_floorDiv_7cf53_12 (by decide) ?_
  refine jj_iload_n C dJ9_floorDiv_7cf53_13 rfl ?_
  refine jj_icmp_eqF (tgt := 21) C dJ9_floorDiv_7cf53_14 (by decide) (by decide) ?_
  refine jj_iload_n C dJ9_floorDiv_7cf53_17 rfl ?_
  refine jj_iconst (v := 1) C dJ9_floorDiv_7cf53_18 (by decide) ?_
  refine jj_isub (v := (-8982)) C dJ9_floorDiv_7cf53_19 (by decide) ?_
  exact jj_iret C ⟨rfl, rfl⟩ dJ9_floorDiv_7cf53_20 (jj_le rfl) (jj_le rfl)


set_option maxHeartbeats 4000000 in
set_option maxRecDepth 100000 in
theorem ct_J9_floorDiv_7cf53_11 {l : Launch} (hl : l.stackTraces = false) (D : va_G) (cA : Nat → ClassId) (ak : (Nat → Nat) × (Nat → Nat)) : jj_M l D cA ak yJ9_floorDiv_7cf53 (.code yJ9_floorDiv_7cf53 cJ9_floorDiv_7cf53 3 (some .int)) 0 0 0 0 [] [.int (-17982), .int 2] (fun (w : va_W) (r : Option Value) => (w = [] ∧ r = some (.int (-8991)))) jj_noX := by
  refine jq_startF hl (by decide +kernel) jw_591 (jj_le rfl) ?_
  intro p e s m args below meth c A hargs hA C hex hmn
  refine jj_iload_n C dJ9_floorDiv_7cf53_0 rfl ?_
  refine jj_iload_n C dJ9_floorDiv_7cf53_1 rfl ?_
  refine jj_idiv (v := (-8991)) C dJ9_floorDiv_7cf53_2 (by decide) (by decide) ?_
  refine jj_istore_n C dJ9_floorDiv_7cf53_3 (by decide) rfl ?_
  refine jj_iload_n C dJ9_floorDiv_7cf53_4 rfl ?_
  refine jj_iload_n C dJ9_floorDiv_7cf53_5 rfl ?_
  refine jj_ixor (v := (-17984)) C dJ9_floorDiv_7cf53_6 (by decide) ?_
  refine jj_if_geF (tgt := 21) C dJ9_floorDiv_7cf53_7 (by decide) (by decide) ?_
  refine jj_iload_n C dJ9_floorDiv_7cf53_10 rfl ?_
  refine jj_iload_n C dJ9_floorDiv_7cf53_11 rfl ?_
  refine jj_imul (v := (-17982)) C dJ9_floorDiv_7cf53_12 (by decide) ?_
  refine jj_iload_n C dJ9_floorDiv_7cf53_13 rfl ?_
  refine jj_icmp_eqT (tgt := 21) C dJ9_floorDiv_7cf53_14 (by decide) (by decide) ?_
  refine jj_iload_n C dJ9_floorDiv_7cf53_21 rfl ?_
  exact jj_iret C ⟨rfl, rfl⟩ dJ9_floorDiv_7cf53_22 (jj_le rfl) (jj_le rfl)


set_option maxHeartbeats 4000000 in
set_option maxRecDepth 100000 in
theorem ct_J9_floorDiv_7cf53_12 {l : Launch} (hl : l.stackTraces = false) (D : va_G) (cA : Nat → ClassId) (ak : (Nat → Nat) × (Nat → Nat)) : jj_M l D cA ak yJ9_floorDiv_7cf53 (.code yJ9_floorDiv_7cf53 cJ9_floorDiv_7cf53 3 (some .int)) 0 0 0 0 [] [.int (-17991), .int 2] (fun (w : va_W) (r : Option Value) => (w = [] ∧ r = some (.int (-8996)))) jj_noX := by
  refine jq_startF hl (by decide +kernel) jw_591 (jj_le rfl) ?_
  intro p e s m args below meth c A hargs hA C hex hmn
  refine jj_iload_n C dJ9_floorDiv_7cf53_0 rfl ?_
  refine jj_iload_n C dJ9_floorDiv_7cf53_1 rfl ?_
  refine jj_idiv (v := (-8995)) C dJ9_floorDiv_7cf53_2 (by decide) (by decide) ?_
  refine jj_istore_n C dJ9_floorDiv_7cf53_3 (by decide) rfl ?_
  refine jj_iload_n C dJ9_floorDiv_7cf53_4 rfl ?_
  refine jj_iload_n C dJ9_floorDiv_7cf53_5 rfl ?_
  refine jj_ixor (v := (-17989)) C dJ9_floorDiv_7cf53_6 (by decide) ?_
  refine jj_if_geF (tgt := 21) C dJ9_floorDiv_7cf53_7 (by decide) (by decide) ?_
  refine jj_iload_n C dJ9_floorDiv_7cf53_10 rfl ?_
  refine jj_iload_n C dJ9_floorDiv_7cf53_11 rfl ?_
  refine jj_imul (v := (-17990)) C dJ9_floorDiv_7cf53_12 (by decide) ?_
  refine jj_iload_n C dJ9_floorDiv_7cf53_13 rfl ?_
  refine jj_icmp_eqF (tgt := 21) C dJ9_floorDiv_7cf53_14 (by decide) (by decide) ?_
  refine jj_iload_n C dJ9_floorDiv_7cf53_17 rfl ?_
  refine jj_iconst (v := 1) C dJ9_floorDiv_7cf53_18 (by decide) ?_
  refine jj_isub (v := (-8996)) C dJ9_floorDiv_7cf53_19 (by decide) ?_
  exact jj_iret C ⟨rfl, rfl⟩ dJ9_floorDiv_7cf53_20 (jj_le rfl) (jj_le rfl)


set_option maxHeartbeats 4000000 in
set_option maxRecDepth 100000 in
theorem ct_J9_floorDiv_7cf53_13 {l : Launch} (hl : l.stackTraces = false) (D : va_G) (cA : Nat → ClassId) (ak : (Nat → Nat) × (Nat → Nat)) : jj_M l D cA ak yJ9_floorDiv_7cf53 (.code yJ9_floorDiv_7cf53 cJ9_floorDiv_7cf53 3 (some .int)) 0 0 0 0 [] [.int (-17996), .int 2] (fun (w : va_W) (r : Option Value) => (w = [] ∧ r = some (.int (-8998)))) jj_noX := by
  refine jq_startF hl (by decide +kernel) jw_591 (jj_le rfl) ?_
  intro p e s m args below meth c A hargs hA C hex hmn
  refine jj_iload_n C dJ9_floorDiv_7cf53_0 rfl ?_
  refine jj_iload_n C dJ9_floorDiv_7cf53_1 rfl ?_
  refine jj_idiv (v := (-8998)) C dJ9_floorDiv_7cf53_2 (by decide) (by decide) ?_
  refine jj_istore_n C dJ9_floorDiv_7cf53_3 (by decide) rfl ?_
  refine jj_iload_n C dJ9_floorDiv_7cf53_4 rfl ?_
  refine jj_iload_n C dJ9_floorDiv_7cf53_5 rfl ?_
  refine jj_ixor (v := (-17994)) C dJ9_floorDiv_7cf53_6 (by decide) ?_
  refine jj_if_geF (tgt := 21) C dJ9_floorDiv_7cf53_7 (by decide) (by decide) ?_
  refine jj_iload_n C dJ9_floorDiv_7cf53_10 rfl ?_
  refine jj_iload_n C dJ9_floorDiv_7cf53_11 rfl ?_
  refine jj_imul (v := (-17996)) C dJ9_floorDiv_7cf53_12 (by decide) ?_
  refine jj_iload_n C dJ9_floorDiv_7cf53_13 rfl ?_
  refine jj_icmp_eqT (tgt := 21) C dJ9_floorDiv_7cf53_14 (by decide) (by decide) ?_
  refine jj_iload_n C dJ9_floorDiv_7cf53_21 rfl ?_
  exact jj_iret C ⟨rfl, rfl⟩ dJ9_floorDiv_7cf53_22 (jj_le rfl) (jj_le rfl)


set_option maxHeartbeats 4000000 in
set_option maxRecDepth 100000 in
theorem ct_J9_floorDiv_7cf53_14 {l : Launch} (hl : l.stackTraces = false) (D : va_G) (cA : Nat → ClassId) (ak : (Nat → Nat) × (Nat → Nat)) : jj_M l D cA ak yJ9_floorDiv_7cf53 (.code yJ9_floorDiv_7cf53 cJ9_floorDiv_7cf53 3 (some .int)) 0 0 0 0 [] [.int (-17998), .int 2] (fun (w : va_W) (r : Option Value) => (w = [] ∧ r = some (.int (-8999)))) jj_noX := by
  refine jq_startF hl (by decide +kernel) jw_591 (jj_le rfl) ?_
  intro p e s m args below meth c A hargs hA C hex hmn
  refine jj_iload_n C dJ9_floorDiv_7cf53_0 rfl ?_
  refine jj_iload_n C dJ9_floorDiv_7cf53_1 rfl ?_
  refine jj_idiv (v := (-8999)) C dJ9_floorDiv_7cf53_2 (by decide) (by decide) ?_
  refine jj_istore_n C dJ9_floorDiv_7cf53_3 (by decide) rfl ?_
  refine jj_iload_n C dJ9_floorDiv_7cf53_4 rfl ?_
  refine jj_iload_n C dJ9_floorDiv_7cf53_5 rfl ?_
  refine jj_ixor (v := (-18000)) C dJ9_floorDiv_7cf53_6 (by decide) ?_
  refine jj_if_geF (tgt := 21) C dJ9_floorDiv_7cf53_7 (by decide) (by decide) ?_
  refine jj_iload_n C dJ9_floorDiv_7cf53_10 rfl ?_
  refine jj_iload_n C dJ9_floorDiv_7cf53_11 rfl ?_
  refine jj_imul (v := (-17998)) C dJ9_floorDiv_7cf53_12 (by decide) ?_
  refine jj_iload_n C dJ9_floorDiv_7cf53_13 rfl ?_
  refine jj_icmp_eqT (tgt := 21) C dJ9_floorDiv_7cf53_14 (by decide) (by decide) ?_
  refine jj_iload_n C dJ9_floorDiv_7cf53_21 rfl ?_
  exact jj_iret C ⟨rfl, rfl⟩ dJ9_floorDiv_7cf53_22 (jj_le rfl) (jj_le rfl)


set_option maxHeartbeats 4000000 in
set_option maxRecDepth 100000 in
theorem ct_J9_floorDiv_7cf53_15 {l : Launch} (hl : l.stackTraces = false) (D : va_G) (cA : Nat → ClassId) (ak : (Nat → Nat) × (Nat → Nat)) : jj_M l D cA ak yJ9_floorDiv_7cf53 (.code yJ9_floorDiv_7cf53 cJ9_floorDiv_7cf53 3 (some .int)) 0 0 0 0 [] [.int (-17999), .int 2] (fun (w : va_W) (r : Option Value) => (w = [] ∧ r = some (.int (-9000)))) jj_noX := by
  refine jq_startF hl (by decide +kernel) jw_591 (jj_le rfl) ?_
  intro p e s m args below meth c A hargs hA C hex hmn
  refine jj_iload_n C dJ9_floorDiv_7cf53_0 rfl ?_
  refine jj_iload_n C dJ9_floorDiv_7cf53_1 rfl ?_
  refine jj_idiv (v := (-8999)) C dJ9_floorDiv_7cf53_2 (by decide) (by decide) ?_
  refine jj_istore_n C dJ9_floorDiv_7cf53_3 (by decide) rfl ?_
  refine jj_iload_n C dJ9_floorDiv_7cf53_4 rfl ?_
  refine jj_iload_n C dJ9_floorDiv_7cf53_5 rfl ?_
  refine jj_ixor (v := (-17997)) C dJ9_floorDiv_7cf53_6 (by decide) ?_
  refine jj_if_geF (tgt := 21) C dJ9_floorDiv_7cf53_7 (by decide) (by decide) ?_
  refine jj_iload_n C dJ9_floorDiv_7cf53_10 rfl ?_
  refine jj_iload_n C dJ9_floorDiv_7cf53_11 rfl ?_
  refine jj_imul (v := (-17998)) C dJ9_floorDiv_7cf53_12 (by decide) ?_
  refine jj_iload_n C dJ9_floorDiv_7cf53_13 rfl ?_
  refine jj_icmp_eqF (tgt := 21) C dJ9_floorDiv_7cf53_14 (by decide) (by decide) ?_
  refine jj_iload_n C dJ9_floorDiv_7cf53_17 rfl ?_
  refine jj_iconst (v := 1) C dJ9_floorDiv_7cf53_18 (by decide) ?_
  refine jj_isub (v := (-9000)) C dJ9_floorDiv_7cf53_19 (by decide) ?_
  exact jj_iret C ⟨rfl, rfl⟩ dJ9_floorDiv_7cf53_20 (jj_le rfl) (jj_le rfl)


set_option maxHeartbeats 4000000 in
set_option maxRecDepth 100000 in
theorem ct_J9_floorDiv_7cf53_16 {l : Launch} (hl : l.stackTraces = false) (D : va_G) (cA : Nat → ClassId) (ak : (Nat → Nat) × (Nat → Nat)) : jj_M l D cA ak yJ9_floorDiv_7cf53 (.code yJ9_floorDiv_7cf53 cJ9_floorDiv_7cf53 3 (some .int)) 0 0 0 0 [] [.int 10501, .int 2] (fun (w : va_W) (r : Option Value) => (w = [] ∧ r = some (.int 5250))) jj_noX := by
  refine jq_startF hl (by decide +kernel) jw_591 (jj_le rfl) ?_
  intro p e s m args below meth c A hargs hA C hex hmn
  refine jj_iload_n C dJ9_floorDiv_7cf53_0 rfl ?_
  refine jj_iload_n C dJ9_floorDiv_7cf53_1 rfl ?_
  refine jj_idiv (v := 5250) C dJ9_floorDiv_7cf53_2 (by decide) (by decide) ?_
  refine jj_istore_n C dJ9_floorDiv_7cf53_3 (by decide) rfl ?_
  refine jj_iload_n C dJ9_floorDiv_7cf53_4 rfl ?_
  refine jj_iload_n C dJ9_floorDiv_7cf53_5 rfl ?_
  refine jj_ixor (v := 10503) C dJ9_floorDiv_7cf53_6 (by decide) ?_
  refine jj_if_geT (tgt := 21) C dJ9_floorDiv_7cf53_7 (by decide) (by decide) ?_
  refine jj_iload_n C dJ9_floorDiv_7cf53_21 rfl ?_
  exact jj_iret C ⟨rfl, rfl⟩ dJ9_floorDiv_7cf53_22 (jj_le rfl) (jj_le rfl)


set_option maxHeartbeats 4000000 in
set_option maxRecDepth 100000 in
theorem ct_J9_floorDiv_7cf53_17 {l : Launch} (hl : l.stackTraces = false) (D : va_G) (cA : Nat → ClassId) (ak : (Nat → Nat) × (Nat → Nat)) : jj_M l D cA ak yJ9_floorDiv_7cf53 (.code yJ9_floorDiv_7cf53 cJ9_floorDiv_7cf53 3 (some .int)) 0 0 0 0 [] [.int 15251, .int 2] (fun (w : va_W) (r : Option Value) => (w = [] ∧ r = some (.int 7625))) jj_noX := by
  refine jq_startF hl (by decide +kernel) jw_591 (jj_le rfl) ?_
  intro p e s m args below meth c A hargs hA C hex hmn
  refine jj_iload_n C dJ9_floorDiv_7cf53_0 rfl ?_
  refine jj_iload_n C dJ9_floorDiv_7cf53_1 rfl ?_
  refine jj_idiv (v := 7625) C dJ9_floorDiv_7cf53_2 (by decide) (by decide) ?_
  refine jj_istore_n C dJ9_floorDiv_7cf53_3 (by decide) rfl ?_
  refine jj_iload_n C dJ9_floorDiv_7cf53_4 rfl ?_
  refine jj_iload_n C dJ9_floorDiv_7cf53_5 rfl ?_
  refine jj_ixor (v := 15249) C dJ9_floorDiv_7cf53_6 (by decide) ?_
  refine jj_if_geT (tgt := 21) C dJ9_floorDiv_7cf53_7 (by decide) (by decide) ?_
  refine jj_iload_n C dJ9_floorDiv_7cf53_21 rfl ?_
  exact jj_iret C ⟨rfl, rfl⟩ dJ9_floorDiv_7cf53_22 (jj_le rfl) (jj_le rfl)


set_option maxHeartbeats 4000000 in
set_option maxRecDepth 100000 in
theorem ct_J9_floorDiv_7cf53_18 {l : Launch} (hl : l.stackTraces = false) (D : va_G) (cA : Nat → ClassId) (ak : (Nat → Nat) × (Nat → Nat)) : jj_M l D cA ak yJ9_floorDiv_7cf53 (.code yJ9_floorDiv_7cf53 cJ9_floorDiv_7cf53 3 (some .int)) 0 0 0 0 [] [.int 17626, .int 2] (fun (w : va_W) (r : Option Value) => (w = [] ∧ r = some (.int 8813))) jj_noX := by
  refine jq_startF hl (by decide +kernel) jw_591 (jj_le rfl) ?_
  intro p e s m args below meth c A hargs hA C hex hmn
  refine jj_iload_n C dJ9_floorDiv_7cf53_0 rfl ?_
  refine jj_iload_n C dJ9_floorDiv_7cf53_1 rfl ?_
  refine jj_idiv (v := 8813) C dJ9_floorDiv_7cf53_2 (by decide) (by decide) ?_
  refine jj_istore_n C dJ9_floorDiv_7cf53_3 (by decide) rfl ?_
  refine jj_iload_n C dJ9_floorDiv_7cf53_4 rfl ?_
  refine jj_iload_n C dJ9_floorDiv_7cf53_5 rfl ?_
  refine jj_ixor (v := 17624) C dJ9_floorDiv_7cf53_6 (by decide) ?_
  refine jj_if_geT (tgt := 21) C dJ9_floorDiv_7cf53_7 (by decide) (by decide) ?_
  refine jj_iload_n C dJ9_floorDiv_7cf53_21 rfl ?_
  exact jj_iret C ⟨rfl, rfl⟩ dJ9_floorDiv_7cf53_22 (jj_le rfl) (jj_le rfl)


set_option maxHeartbeats 4000000 in
set_option maxRecDepth 100000 in
theorem ct_J9_floorDiv_7cf53_19 {l : Launch} (hl : l.stackTraces = false) (D : va_G) (cA : Nat → ClassId) (ak : (Nat → Nat) × (Nat → Nat)) : jj_M l D cA ak yJ9_floorDiv_7cf53 (.code yJ9_floorDiv_7cf53 cJ9_floorDiv_7cf53 3 (some .int)) 0 0 0 0 [] [.int 18814, .int 2] (fun (w : va_W) (r : Option Value) => (w = [] ∧ r = some (.int 9407))) jj_noX := by
  refine jq_startF hl (by decide +kernel) jw_591 (jj_le rfl) ?_
  intro p e s m args below meth c A hargs hA C hex hmn
  refine jj_iload_n C dJ9_floorDiv_7cf53_0 rfl ?_
  refine jj_iload_n C dJ9_floorDiv_7cf53_1 rfl ?_
  refine jj_idiv (v := 9407) C dJ9_floorDiv_7cf53_2 (by decide) (by decide) ?_
  refine jj_istore_n C dJ9_floorDiv_7cf53_3 (by decide) rfl ?_
  refine jj_iload_n C dJ9_floorDiv_7cf53_4 rfl ?_
  refine jj_iload_n C dJ9_floorDiv_7cf53_5 rfl ?_
  refine jj_ixor (v := 18812) C dJ9_floorDiv_7cf53_6 (by decide) ?_
  refine jj_if_geT (tgt := 21) C dJ9_floorDiv_7cf53_7 (by decide) (by decide) ?_
  refine jj_iload_n C dJ9_floorDiv_7cf53_21 rfl ?_
  exact jj_iret C ⟨rfl, rfl⟩ dJ9_floorDiv_7cf53_22 (jj_le rfl) (jj_le rfl)


set_option maxHeartbeats 4000000 in
set_option maxRecDepth 100000 in
theorem ct_J9_floorDiv_7cf53_20 {l : Launch} (hl : l.stackTraces = false) (D : va_G) (cA : Nat → ClassId) (ak : (Nat → Nat) × (Nat → Nat)) : jj_M l D cA ak yJ9_floorDiv_7cf53 (.code yJ9_floorDiv_7cf53 cJ9_floorDiv_7cf53 3 (some .int)) 0 0 0 0 [] [.int 19408, .int 2] (fun (w : va_W) (r : Option Value) => (w = [] ∧ r = some (.int 9704))) jj_noX := by
  refine jq_startF hl (by decide +kernel) jw_591 (jj_le rfl) ?_
  intro p e s m args below meth c A hargs hA C hex hmn
  refine jj_iload_n C dJ9_floorDiv_7cf53_0 rfl ?_
  refine jj_iload_n C dJ9_floorDiv_7cf53_1 rfl ?_
  refine jj_idiv (v := 9704) C dJ9_floorDiv_7cf53_2 (by decide) (by decide) ?_
  refine jj_istore_n C dJ9_floorDiv_7cf53_3 (by decide) rfl ?_
  refine jj_iload_n C dJ9_floorDiv_7cf53_4 rfl ?_
  refine jj_iload_n C dJ9_floorDiv_7cf53_5 rfl ?_
  refine jj_ixor (v := 19410) C dJ9_floorDiv_7cf53_6 (by decide) ?_
  refine jj_if_geT (tgt := 21) C dJ9_floorDiv_7cf53_7 (by decide) (by decide) ?_
  refine jj_iload_n C dJ9_floorDiv_7cf53_21 rfl ?_
  exact jj_iret C ⟨rfl, rfl⟩ dJ9_floorDiv_7cf53_22 (jj_le rfl) (jj_le rfl)


set_option maxHeartbeats 4000000 in
set_option maxRecDepth 100000 in
theorem ct_J9_floorDiv_7cf53_21 {l : Launch} (hl : l.stackTraces = false) (D : va_G) (cA : Nat → ClassId) (ak : (Nat → Nat) × (Nat → Nat)) : jj_M l D cA ak yJ9_floorDiv_7cf53 (.code yJ9_floorDiv_7cf53 cJ9_floorDiv_7cf53 3 (some .int)) 0 0 0 0 [] [.int 19705, .int 2] (fun (w : va_W) (r : Option Value) => (w = [] ∧ r = some (.int 9852))) jj_noX := by
  refine jq_startF hl (by decide +kernel) jw_591 (jj_le rfl) ?_
  intro p e s m args below meth c A hargs hA C hex hmn
  refine jj_iload_n C dJ9_floorDiv_7cf53_0 rfl ?_
  refine jj_iload_n C dJ9_floorDiv_7cf53_1 rfl ?_
  refine jj_idiv (v := 9852) C dJ9_floorDiv_7cf53_2 (by decide) (by decide) ?_
  refine jj_istore_n C dJ9_floorDiv_7cf53_3 (by decide) rfl ?_
  refine jj_iload_n C dJ9_floorDiv_7cf53_4 rfl ?_
  refine jj_iload_n C dJ9_floorDiv_7cf53_5 rfl ?_
  refine jj_ixor (v := 19707) C dJ9_floorDiv_7cf53_6 (by decide) ?_
  refine jj_if_geT (tgt := 21) C dJ9_floorDiv_7cf53_7 (by decide) (by decide) ?_
  refine jj_iload_n C dJ9_floorDiv_7cf53_21 rfl ?_
  exact jj_iret C ⟨rfl, rfl⟩ dJ9_floorDiv_7cf53_22 (jj_le rfl) (jj_le rfl)


set_option maxHeartbeats 4000000 in
set_option maxRecDepth 100000 in
theorem ct_J9_floorDiv_7cf53_22 {l : Launch} (hl : l.stackTraces = false) (D : va_G) (cA : Nat → ClassId) (ak : (Nat → Nat) × (Nat → Nat)) : jj_M l D cA ak yJ9_floorDiv_7cf53 (.code yJ9_floorDiv_7cf53 cJ9_floorDiv_7cf53 3 (some .int)) 0 0 0 0 [] [.int 19853, .int 2] (fun (w : va_W) (r : Option Value) => (w = [] ∧ r = some (.int 9926))) jj_noX := by
  refine jq_startF hl (by decide +kernel) jw_591 (jj_le rfl) ?_
  intro p e s m args below meth c A hargs hA C hex hmn
  refine jj_iload_n C dJ9_floorDiv_7cf53_0 rfl ?_
  refine jj_iload_n C dJ9_floorDiv_7cf53_1 rfl ?_
  refine jj_idiv (v := 9926) C dJ9_floorDiv_7cf53_2 (by decide) (by decide) ?_
  refine jj_istore_n C dJ9_floorDiv_7cf53_3 (by decide) rfl ?_
  refine jj_iload_n C dJ9_floorDiv_7cf53_4 rfl ?_
  refine jj_iload_n C dJ9_floorDiv_7cf53_5 rfl ?_
  refine jj_ixor (v := 19855) C dJ9_floorDiv_7cf53_6 (by decide) ?_
  refine jj_if_geT (tgt := 21) C dJ9_floorDiv_7cf53_7 (by decide) (by decide) ?_
  refine jj_iload_n C dJ9_floorDiv_7cf53_21 rfl ?_
  exact jj_iret C ⟨rfl, rfl⟩ dJ9_floorDiv_7cf53_22 (jj_le rfl) (jj_le rfl)


set_option maxHeartbeats 4000000 in
set_option maxRecDepth 100000 in
theorem ct_J9_floorDiv_7cf53_23 {l : Launch} (hl : l.stackTraces = false) (D : va_G) (cA : Nat → ClassId) (ak : (Nat → Nat) × (Nat → Nat)) : jj_M l D cA ak yJ9_floorDiv_7cf53 (.code yJ9_floorDiv_7cf53 cJ9_floorDiv_7cf53 3 (some .int)) 0 0 0 0 [] [.int 19927, .int 2] (fun (w : va_W) (r : Option Value) => (w = [] ∧ r = some (.int 9963))) jj_noX := by
  refine jq_startF hl (by decide +kernel) jw_591 (jj_le rfl) ?_
  intro p e s m args below meth c A hargs hA C hex hmn
  refine jj_iload_n C dJ9_floorDiv_7cf53_0 rfl ?_
  refine jj_iload_n C dJ9_floorDiv_7cf53_1 rfl ?_
  refine jj_idiv (v := 9963) C dJ9_floorDiv_7cf53_2 (by decide) (by decide) ?_
  refine jj_istore_n C dJ9_floorDiv_7cf53_3 (by decide) rfl ?_
  refine jj_iload_n C dJ9_floorDiv_7cf53_4 rfl ?_
  refine jj_iload_n C dJ9_floorDiv_7cf53_5 rfl ?_
  refine jj_ixor (v := 19925) C dJ9_floorDiv_7cf53_6 (by decide) ?_
  refine jj_if_geT (tgt := 21) C dJ9_floorDiv_7cf53_7 (by decide) (by decide) ?_
  refine jj_iload_n C dJ9_floorDiv_7cf53_21 rfl ?_
  exact jj_iret C ⟨rfl, rfl⟩ dJ9_floorDiv_7cf53_22 (jj_le rfl) (jj_le rfl)


set_option maxHeartbeats 4000000 in
set_option maxRecDepth 100000 in
theorem ct_J9_floorDiv_7cf53_24 {l : Launch} (hl : l.stackTraces = false) (D : va_G) (cA : Nat → ClassId) (ak : (Nat → Nat) × (Nat → Nat)) : jj_M l D cA ak yJ9_floorDiv_7cf53 (.code yJ9_floorDiv_7cf53 cJ9_floorDiv_7cf53 3 (some .int)) 0 0 0 0 [] [.int 19964, .int 2] (fun (w : va_W) (r : Option Value) => (w = [] ∧ r = some (.int 9982))) jj_noX := by
  refine jq_startF hl (by decide +kernel) jw_591 (jj_le rfl) ?_
  intro p e s m args below meth c A hargs hA C hex hmn
  refine jj_iload_n C dJ9_floorDiv_7cf53_0 rfl ?_
  refine jj_iload_n C dJ9_floorDiv_7cf53_1 rfl ?_
  refine jj_idiv (v := 9982) C dJ9_floorDiv_7cf53_2 (by decide) (by decide) ?_
  refine jj_istore_n C dJ9_floorDiv_7cf53_3 (by decide) rfl ?_
  refine jj_iload_n C dJ9_floorDiv_7cf53_4 rfl ?_
  refine jj_iload_n C dJ9_floorDiv_7cf53_5 rfl ?_
  refine jj_ixor (v := 19966) C dJ9_floorDiv_7cf53_6 (by decide) ?_
  refine jj_if_geT (tgt := 21) C dJ9_floorDiv_7cf53_7 (by decide) (by decide) ?_
  refine jj_iload_n C dJ9_floorDiv_7cf53_21 rfl ?_
  exact jj_iret C ⟨rfl, rfl⟩ dJ9_floorDiv_7cf53_22 (jj_le rfl) (jj_le rfl)


set_option maxHeartbeats 4000000 in
set_option maxRecDepth 100000 in
theorem ct_J9_floorDiv_7cf53_25 {l : Launch} (hl : l.stackTraces = false) (D : va_G) (cA : Nat → ClassId) (ak : (Nat → Nat) × (Nat → Nat)) : jj_M l D cA ak yJ9_floorDiv_7cf53 (.code yJ9_floorDiv_7cf53 cJ9_floorDiv_7cf53 3 (some .int)) 0 0 0 0 [] [.int 19983, .int 2] (fun (w : va_W) (r : Option Value) => (w = [] ∧ r = some (.int 9991))) jj_noX := by
  refine jq_startF hl (by decide +kernel) jw_591 (jj_le rfl) ?_
  intro p e s m args below meth c A hargs hA C hex hmn
  refine jj_iload_n C dJ9_floorDiv_7cf53_0 rfl ?_
  refine jj_iload_n C dJ9_floorDiv_7cf53_1 rfl ?_
  refine jj_idiv (v := 9991) C dJ9_floorDiv_7cf53_2 (by decide) (by decide) ?_
  refine jj_istore_n C dJ9_floorDiv_7cf53_3 (by decide) rfl ?_
  refine jj_iload_n C dJ9_floorDiv_7cf53_4 rfl ?_
  refine jj_iload_n C dJ9_floorDiv_7cf53_5 rfl ?_
  refine jj_ixor (v := 19981) C dJ9_floorDiv_7cf53_6 (by decide) ?_
  refine jj_if_geT (tgt := 21) C dJ9_floorDiv_7cf53_7 (by decide) (by decide) ?_
  refine jj_iload_n C dJ9_floorDiv_7cf53_21 rfl ?_
  exact jj_iret C ⟨rfl, rfl⟩ dJ9_floorDiv_7cf53_22 (jj_le rfl) (jj_le rfl)


set_option maxHeartbeats 4000000 in
set_option maxRecDepth 100000 in
theorem ct_J9_floorDiv_7cf53_26 {l : Launch} (hl : l.stackTraces = false) (D : va_G) (cA : Nat → ClassId) (ak : (Nat → Nat) × (Nat → Nat)) : jj_M l D cA ak yJ9_floorDiv_7cf53 (.code yJ9_floorDiv_7cf53 cJ9_floorDiv_7cf53 3 (some .int)) 0 0 0 0 [] [.int 19992, .int 2] (fun (w : va_W) (r : Option Value) => (w = [] ∧ r = some (.int 9996))) jj_noX := by
  refine jq_startF hl (by decide +kernel) jw_591 (jj_le rfl) ?_
  intro p e s m args below meth c A hargs hA C hex hmn
  refine jj_iload_n C dJ9_floorDiv_7cf53_0 rfl ?_
  refine jj_iload_n C dJ9_floorDiv_7cf53_1 rfl ?_
  refine jj_idiv (v := 9996) C dJ9_floorDiv_7cf53_2 (by decide) (by decide) ?_
  refine jj_istore_n C dJ9_floorDiv_7cf53_3 (by decide) rfl ?_
  refine jj_iload_n C dJ9_floorDiv_7cf53_4 rfl ?_
  refine jj_iload_n C dJ9_floorDiv_7cf53_5 rfl ?_
  refine jj_ixor (v := 19994) C dJ9_floorDiv_7cf53_6 (by decide) ?_
  refine jj_if_geT (tgt := 21) C dJ9_floorDiv_7cf53_7 (by decide) (by decide) ?_
  refine jj_iload_n C dJ9_floorDiv_7cf53_21 rfl ?_
  exact jj_iret C ⟨rfl, rfl⟩ dJ9_floorDiv_7cf53_22 (jj_le rfl) (jj_le rfl)


set_option maxHeartbeats 4000000 in
set_option maxRecDepth 100000 in
theorem ct_J9_floorDiv_7cf53_27 {l : Launch} (hl : l.stackTraces = false) (D : va_G) (cA : Nat → ClassId) (ak : (Nat → Nat) × (Nat → Nat)) : jj_M l D cA ak yJ9_floorDiv_7cf53 (.code yJ9_floorDiv_7cf53 cJ9_floorDiv_7cf53 3 (some .int)) 0 0 0 0 [] [.int 19997, .int 2] (fun (w : va_W) (r : Option Value) => (w = [] ∧ r = some (.int 9998))) jj_noX := by
  refine jq_startF hl (by decide +kernel) jw_591 (jj_le rfl) ?_
  intro p e s m args below meth c A hargs hA C hex hmn
  refine jj_iload_n C dJ9_floorDiv_7cf53_0 rfl ?_
  refine jj_iload_n C dJ9_floorDiv_7cf53_1 rfl ?_
  refine jj_idiv (v := 9998) C dJ9_floorDiv_7cf53_2 (by decide) (by decide) ?_
  refine jj_istore_n C dJ9_floorDiv_7cf53_3 (by decide) rfl ?_
  refine jj_iload_n C dJ9_floorDiv_7cf53_4 rfl ?_
  refine jj_iload_n C dJ9_floorDiv_7cf53_5 rfl ?_
  refine jj_ixor (v := 19999) C dJ9_floorDiv_7cf53_6 (by decide) ?_
  refine jj_if_geT (tgt := 21) C dJ9_floorDiv_7cf53_7 (by decide) (by decide) ?_
  refine jj_iload_n C dJ9_floorDiv_7cf53_21 rfl ?_
  exact jj_iret C ⟨rfl, rfl⟩ dJ9_floorDiv_7cf53_22 (jj_le rfl) (jj_le rfl)


set_option maxHeartbeats 4000000 in
set_option maxRecDepth 100000 in
theorem ct_J9_floorDiv_7cf53_28 {l : Launch} (hl : l.stackTraces = false) (D : va_G) (cA : Nat → ClassId) (ak : (Nat → Nat) × (Nat → Nat)) : jj_M l D cA ak yJ9_floorDiv_7cf53 (.code yJ9_floorDiv_7cf53 cJ9_floorDiv_7cf53 3 (some .int)) 0 0 0 0 [] [.int 19999, .int 2] (fun (w : va_W) (r : Option Value) => (w = [] ∧ r = some (.int 9999))) jj_noX := by
  refine jq_startF hl (by decide +kernel) jw_591 (jj_le rfl) ?_
  intro p e s m args below meth c A hargs hA C hex hmn
  refine jj_iload_n C dJ9_floorDiv_7cf53_0 rfl ?_
  refine jj_iload_n C dJ9_floorDiv_7cf53_1 rfl ?_
  refine jj_idiv (v := 9999) C dJ9_floorDiv_7cf53_2 (by decide) (by decide) ?_
  refine jj_istore_n C dJ9_floorDiv_7cf53_3 (by decide) rfl ?_
  refine jj_iload_n C dJ9_floorDiv_7cf53_4 rfl ?_
  refine jj_iload_n C dJ9_floorDiv_7cf53_5 rfl ?_
  refine jj_ixor (v := 19997) C dJ9_floorDiv_7cf53_6 (by decide) ?_
  refine jj_if_geT (tgt := 21) C dJ9_floorDiv_7cf53_7 (by decide) (by decide) ?_
  refine jj_iload_n C dJ9_floorDiv_7cf53_21 rfl ?_
  exact jj_iret C ⟨rfl, rfl⟩ dJ9_floorDiv_7cf53_22 (jj_le rfl) (jj_le rfl)


set_option maxHeartbeats 4000000 in
set_option maxRecDepth 100000 in
theorem ct_X10_firstRateInReach_1 {l : Launch} (hl : l.stackTraces = false) (D : va_G) (cA : Nat → ClassId) (ak : (Nat → Nat) × (Nat → Nat)) (h0 h1 h2 h3 h4 h5 h6 h7 h8 h9 h10 h11 : Nat) (a0 : Int32) (b1 : Int64) : jj_M l D cA ak yX10_firstRateInReach (.code yX10_firstRateInReach cX10_firstRateInReach 10 (some .int)) 2 57 0 0 [(h0, .inr (11, [.ref h3, .int 0, .int (-1), .ref h1, .ref h4, .ref h2, .ref h5, .int 0, .int 0, .ref h6])), (h1, .inr (2, [.int 1, .int 0, .int 0, .int 0, .int 100, .int 0, .int 0, .int 0, .int 0, .int 0, .ref h7, .ref h8, .ref h9, .ref h10])), (h2, .inr (3, [.ref h11, .long 0, .long 0, .long 0, .long 0, .long 0]))] [.ref h0, .int a0, .long b1] (fun (w : va_W) (r : Option Value) => (b1 ≤ 0 ∧ w = [(h0, .inr (11, [.ref h3, .int 0, .int (-1), .ref h1, .ref h4, .ref h2, .ref h5, .int 0, .int 0, .ref h6])), (h2, .inr (3, [.ref h11, .long 0, .long 0, .long 0, .long 0, .long 0])), (h1, .inr (2, [.int 1, .int 0, .int 0, .int 0, .int 100, .int 0, .int 0, .int 0, .int 0, .int 0, .ref h7, .ref h8, .ref h9, .ref h10]))] ∧ r = some (.int (-9000))) ∨ (¬ b1 ≤ 0 ∧ w = [(h0, .inr (11, [.ref h3, .int 0, .int (-1), .ref h1, .ref h4, .ref h2, .ref h5, .int 0, .int 0, .ref h6])), (h2, .inr (3, [.ref h11, .long 0, .long 0, .long 0, .long 0, .long 0])), (h1, .inr (2, [.int 1, .int 0, .int 0, .int 0, .int 100, .int 0, .int 0, .int 0, .int 0, .int 0, .ref h7, .ref h8, .ref h9, .ref h10]))] ∧ r = some (.int 10000))) jj_noX := by
  refine jj_start hl (by decide) jw_595 (jj_le rfl) ?_
  intro p e s m args below meth c A hargs hA C hex hmn
  refine jj_aload_n C dX10_firstRateInReach_0 rfl ?_
  refine jj_get C jk_11 3 (by decide) jw_135 0 rfl rfl dX10_firstRateInReach_1 ?_
  refine jj_iload_n C dX10_firstRateInReach_4 rfl ?_
  refine jq_callV (rest := []) C (ct_X0_fallOfPay_1 hl D cA ak h1 h7 h8 h9 h10 a0) [1] [0, 2] rfl rfl (by decide) (by decide) (by decide) 0 rfl rfl rfl jw_587 jw_588 jw_589 jw_57 jw_586 jn_X0_fallOfPay rfl (jj_le rfl) (jj_le rfl) (jj_le rfl) (jj_le rfl) (jj_le rfl) dX10_firstRateInReach_5 rfl (fun _ _ hX => hX.elim) (fun w1 r O_2 => ?_)
  obtain ⟨rfl, rfl⟩ := O_2
  refine jj_apd rfl ?_
  refine jj_lstore C dX10_firstRateInReach_8 (by decide) rfl ?_
  refine jj_sipush (v := (-9000)) C dX10_firstRateInReach_10 (by decide) ?_
  refine jj_istore C dX10_firstRateInReach_13 (by decide) rfl ?_
  refine jj_sipush (v := 10000) C dX10_firstRateInReach_15 (by decide) ?_
  refine jj_istore C dX10_firstRateInReach_18 (by decide) rfl ?_
  refine jj_iconst (v := 0) C dX10_firstRateInReach_20 (by decide) ?_
  refine jj_istore C dX10_firstRateInReach_21 (by decide) rfl ?_
  refine jj_iload C dX10_firstRateInReach_23 rfl ?_
  refine jj_bipush (v := 32) C dX10_firstRateInReach_25 (by decide) ?_
  refine jj_icmp_geF (tgt := 89) C dX10_firstRateInReach_27 (by decide) (by decide) ?_
  refine jj_iload C dX10_firstRateInReach_30 rfl ?_
  refine jj_iload C dX10_firstRateInReach_32 rfl ?_
  refine jj_icmp_geF (tgt := 89) C dX10_firstRateInReach_34 (by decide) (by decide) ?_
  refine jj_iload C dX10_firstRateInReach_37 rfl ?_
  refine jj_iload C dX10_firstRateInReach_39 rfl ?_
  refine jj_iadd (v := 1000) C dX10_firstRateInReach_41 (by decide) ?_
  refine jj_iconst (v := 2) C dX10_firstRateInReach_42 (by decide) ?_
  refine jq_callS (rest := []) C (ct_J9_floorDiv_7cf53_1 hl D cA ak) [] [0, 1, 2] rfl rfl (by decide) (by decide) (by decide) jw_592 jw_593 jw_286 jw_591 jn_J9_floorDiv_7cf53 rfl (jj_le rfl) (jj_le rfl) (jj_le rfl) (jj_le rfl) (jj_le rfl) dX10_firstRateInReach_43 rfl (fun _ _ hX => hX.elim) (fun w1 r O_4 => ?_)
  obtain ⟨rfl, rfl⟩ := O_4
  refine jj_apd rfl ?_
  refine jj_istore C dX10_firstRateInReach_46 (by decide) rfl ?_
  refine jj_aload_n C dX10_firstRateInReach_48 rfl ?_
  refine jj_get C jk_11 5 (by decide) jw_159 0 rfl rfl dX10_firstRateInReach_49 ?_
  refine jj_aload_n C dX10_firstRateInReach_52 rfl ?_
  refine jj_get C jk_11 3 (by decide) jw_135 0 rfl rfl dX10_firstRateInReach_53 ?_
  refine jj_iload_n C dX10_firstRateInReach_56 rfl ?_
  refine jj_iload C dX10_firstRateInReach_57 rfl ?_
  refine jq_callV (rest := []) C (ct_X1_payAfterRate_1 hl D cA ak h2 h1 h11 h7 h8 h9 h10 a0 500) [1, 2] [0] rfl rfl (by decide) (by decide) (by decide) 0 rfl rfl rfl jw_535 jw_536 jw_537 jw_146 jw_534 jn_X1_payAfterRate rfl (jj_le rfl) (jj_le rfl) (jj_le rfl) (jj_le rfl) (jj_le rfl) dX10_firstRateInReach_59 rfl (fun _ _ hX => hX.elim) (fun w1 r O_6 => ?_)
  obtain ⟨rfl, rfl⟩ := O_6
  refine jj_apd rfl ?_
  refine jj_lload C dX10_firstRateInReach_62 rfl ?_
  refine jj_ladd (v := 0) C dX10_firstRateInReach_64 (by decide) ?_
  refine jj_lload_n C dX10_firstRateInReach_65 rfl ?_
  refine jj_lcmp_ge (tgt := 79) C dX10_firstRateInReach_66 dX10_firstRateInReach_67 (by decide) (fun c_7 => ?_) (fun c_7 => ?_)
  · refine jj_iload C dX10_firstRateInReach_79 rfl ?_
    refine jj_istore C dX10_firstRateInReach_81 (by decide) rfl ?_
    refine jj_iinc (v := 1) C dX10_firstRateInReach_83 rfl (by decide) (by decide) rfl ?_
    refine jj_goto (tgt := 23) C dX10_firstRateInReach_86 (by decide) ?_
    refine jj_iload C dX10_firstRateInReach_23 rfl ?_
    refine jj_bipush (v := 32) C dX10_firstRateInReach_25 (by decide) ?_
    refine jj_icmp_geF (tgt := 89) C dX10_firstRateInReach_27 (by decide) (by decide) ?_
    refine jj_iload C dX10_firstRateInReach_30 rfl ?_
    refine jj_iload C dX10_firstRateInReach_32 rfl ?_
    refine jj_icmp_geF (tgt := 89) C dX10_firstRateInReach_34 (by decide) (by decide) ?_
    refine jj_iload C dX10_firstRateInReach_37 rfl ?_
    refine jj_iload C dX10_firstRateInReach_39 rfl ?_
    refine jj_iadd (v := (-8500)) C dX10_firstRateInReach_41 (by decide) ?_
    refine jj_iconst (v := 2) C dX10_firstRateInReach_42 (by decide) ?_
    refine jq_callS (rest := []) C (ct_J9_floorDiv_7cf53_2 hl D cA ak) [] [0, 1, 2] rfl rfl (by decide) (by decide) (by decide) jw_592 jw_593 jw_286 jw_591 jn_J9_floorDiv_7cf53 rfl (jj_le rfl) (jj_le rfl) (jj_le rfl) (jj_le rfl) (jj_le rfl) dX10_firstRateInReach_43 rfl (fun _ _ hX => hX.elim) (fun w1 r O_9 => ?_)
    obtain ⟨rfl, rfl⟩ := O_9
    refine jj_apd rfl ?_
    refine jj_istore C dX10_firstRateInReach_46 (by decide) rfl ?_
    refine jj_aload_n C dX10_firstRateInReach_48 rfl ?_
    refine jj_get C jk_11 5 (by decide) jw_159 0 rfl rfl dX10_firstRateInReach_49 ?_
    refine jj_aload_n C dX10_firstRateInReach_52 rfl ?_
    refine jj_get C jk_11 3 (by decide) jw_135 0 rfl rfl dX10_firstRateInReach_53 ?_
    refine jj_iload_n C dX10_firstRateInReach_56 rfl ?_
    refine jj_iload C dX10_firstRateInReach_57 rfl ?_
    refine jq_callV (rest := []) C (ct_X1_payAfterRate_1 hl D cA ak h2 h1 h11 h7 h8 h9 h10 a0 (-4250)) [1, 2] [0] rfl rfl (by decide) (by decide) (by decide) 0 rfl rfl rfl jw_535 jw_536 jw_537 jw_146 jw_534 jn_X1_payAfterRate rfl (jj_le rfl) (jj_le rfl) (jj_le rfl) (jj_le rfl) (jj_le rfl) dX10_firstRateInReach_59 rfl (fun _ _ hX => hX.elim) (fun w1 r O_11 => ?_)
    obtain ⟨rfl, rfl⟩ := O_11
    refine jj_apd rfl ?_
    refine jj_lload C dX10_firstRateInReach_62 rfl ?_
    refine jj_ladd (v := 0) C dX10_firstRateInReach_64 (by decide) ?_
    refine jj_lload_n C dX10_firstRateInReach_65 rfl ?_
    refine jj_lcmp_geT (tgt := 79) C dX10_firstRateInReach_66 dX10_firstRateInReach_67 (by decide) c_7 ?_
    refine jj_iload C dX10_firstRateInReach_79 rfl ?_
    refine jj_istore C dX10_firstRateInReach_81 (by decide) rfl ?_
    refine jj_iinc (v := 2) C dX10_firstRateInReach_83 rfl (by decide) (by decide) rfl ?_
    refine jj_goto (tgt := 23) C dX10_firstRateInReach_86 (by decide) ?_
    refine jj_iload C dX10_firstRateInReach_23 rfl ?_
    refine jj_bipush (v := 32) C dX10_firstRateInReach_25 (by decide) ?_
    refine jj_icmp_geF (tgt := 89) C dX10_firstRateInReach_27 (by decide) (by decide) ?_
    refine jj_iload C dX10_firstRateInReach_30 rfl ?_
    refine jj_iload C dX10_firstRateInReach_32 rfl ?_
    refine jj_icmp_geF (tgt := 89) C dX10_firstRateInReach_34 (by decide) (by decide) ?_
    refine jj_iload C dX10_firstRateInReach_37 rfl ?_
    refine jj_iload C dX10_firstRateInReach_39 rfl ?_
    refine jj_iadd (v := (-13250)) C dX10_firstRateInReach_41 (by decide) ?_
    refine jj_iconst (v := 2) C dX10_firstRateInReach_42 (by decide) ?_
    refine jq_callS (rest := []) C (ct_J9_floorDiv_7cf53_3 hl D cA ak) [] [0, 1, 2] rfl rfl (by decide) (by decide) (by decide) jw_592 jw_593 jw_286 jw_591 jn_J9_floorDiv_7cf53 rfl (jj_le rfl) (jj_le rfl) (jj_le rfl) (jj_le rfl) (jj_le rfl) dX10_firstRateInReach_43 rfl (fun _ _ hX => hX.elim) (fun w1 r O_13 => ?_)
    obtain ⟨rfl, rfl⟩ := O_13
    refine jj_apd rfl ?_
    refine jj_istore C dX10_firstRateInReach_46 (by decide) rfl ?_
    refine jj_aload_n C dX10_firstRateInReach_48 rfl ?_
    refine jj_get C jk_11 5 (by decide) jw_159 0 rfl rfl dX10_firstRateInReach_49 ?_
    refine jj_aload_n C dX10_firstRateInReach_52 rfl ?_
    refine jj_get C jk_11 3 (by decide) jw_135 0 rfl rfl dX10_firstRateInReach_53 ?_
    refine jj_iload_n C dX10_firstRateInReach_56 rfl ?_
    refine jj_iload C dX10_firstRateInReach_57 rfl ?_
    refine jq_callV (rest := []) C (ct_X1_payAfterRate_1 hl D cA ak h2 h1 h11 h7 h8 h9 h10 a0 (-6625)) [1, 2] [0] rfl rfl (by decide) (by decide) (by decide) 0 rfl rfl rfl jw_535 jw_536 jw_537 jw_146 jw_534 jn_X1_payAfterRate rfl (jj_le rfl) (jj_le rfl) (jj_le rfl) (jj_le rfl) (jj_le rfl) dX10_firstRateInReach_59 rfl (fun _ _ hX => hX.elim) (fun w1 r O_15 => ?_)
    obtain ⟨rfl, rfl⟩ := O_15
    refine jj_apd rfl ?_
    refine jj_lload C dX10_firstRateInReach_62 rfl ?_
    refine jj_ladd (v := 0) C dX10_firstRateInReach_64 (by decide) ?_
    refine jj_lload_n C dX10_firstRateInReach_65 rfl ?_
    refine jj_lcmp_geT (tgt := 79) C dX10_firstRateInReach_66 dX10_firstRateInReach_67 (by decide) c_7 ?_
    refine jj_iload C dX10_firstRateInReach_79 rfl ?_
    refine jj_istore C dX10_firstRateInReach_81 (by decide) rfl ?_
    refine jj_iinc (v := 3) C dX10_firstRateInReach_83 rfl (by decide) (by decide) rfl ?_
    refine jj_goto (tgt := 23) C dX10_firstRateInReach_86 (by decide) ?_
    refine jj_iload C dX10_firstRateInReach_23 rfl ?_
    refine jj_bipush (v := 32) C dX10_firstRateInReach_25 (by decide) ?_
    refine jj_icmp_geF (tgt := 89) C dX10_firstRateInReach_27 (by decide) (by decide) ?_
    refine jj_iload C dX10_firstRateInReach_30 rfl ?_
    refine jj_iload C dX10_firstRateInReach_32 rfl ?_
    refine jj_icmp_geF (tgt := 89) C dX10_firstRateInReach_34 (by decide) (by decide) ?_
    refine jj_iload C dX10_firstRateInReach_37 rfl ?_
    refine jj_iload C dX10_firstRateInReach_39 rfl ?_
    refine jj_iadd (v := (-15625)) C dX10_firstRateInReach_41 (by decide) ?_
    refine jj_iconst (v := 2) C dX10_firstRateInReach_42 (by decide) ?_
    refine jq_callS (rest := []) C (ct_J9_floorDiv_7cf53_4 hl D cA ak) [] [0, 1, 2] rfl rfl (by decide) (by decide) (by decide) jw_592 jw_593 jw_286 jw_591 jn_J9_floorDiv_7cf53 rfl (jj_le rfl) (jj_le rfl) (jj_le rfl) (jj_le rfl) (jj_le rfl) dX10_firstRateInReach_43 rfl (fun _ _ hX => hX.elim) (fun w1 r O_17 => ?_)
    obtain ⟨rfl, rfl⟩ := O_17
    refine jj_apd rfl ?_
    refine jj_istore C dX10_firstRateInReach_46 (by decide) rfl ?_
    refine jj_aload_n C dX10_firstRateInReach_48 rfl ?_
    refine jj_get C jk_11 5 (by decide) jw_159 0 rfl rfl dX10_firstRateInReach_49 ?_
    refine jj_aload_n C dX10_firstRateInReach_52 rfl ?_
    refine jj_get C jk_11 3 (by decide) jw_135 0 rfl rfl dX10_firstRateInReach_53 ?_
    refine jj_iload_n C dX10_firstRateInReach_56 rfl ?_
    refine jj_iload C dX10_firstRateInReach_57 rfl ?_
    refine jq_callV (rest := []) C (ct_X1_payAfterRate_1 hl D cA ak h2 h1 h11 h7 h8 h9 h10 a0 (-7813)) [1, 2] [0] rfl rfl (by decide) (by decide) (by decide) 0 rfl rfl rfl jw_535 jw_536 jw_537 jw_146 jw_534 jn_X1_payAfterRate rfl (jj_le rfl) (jj_le rfl) (jj_le rfl) (jj_le rfl) (jj_le rfl) dX10_firstRateInReach_59 rfl (fun _ _ hX => hX.elim) (fun w1 r O_19 => ?_)
    obtain ⟨rfl, rfl⟩ := O_19
    refine jj_apd rfl ?_
    refine jj_lload C dX10_firstRateInReach_62 rfl ?_
    refine jj_ladd (v := 0) C dX10_firstRateInReach_64 (by decide) ?_
    refine jj_lload_n C dX10_firstRateInReach_65 rfl ?_
    refine jj_lcmp_geT (tgt := 79) C dX10_firstRateInReach_66 dX10_firstRateInReach_67 (by decide) c_7 ?_
    refine jj_iload C dX10_firstRateInReach_79 rfl ?_
    refine jj_istore C dX10_firstRateInReach_81 (by decide) rfl ?_
    refine jj_iinc (v := 4) C dX10_firstRateInReach_83 rfl (by decide) (by decide) rfl ?_
    refine jj_goto (tgt := 23) C dX10_firstRateInReach_86 (by decide) ?_
    refine jj_iload C dX10_firstRateInReach_23 rfl ?_
    refine jj_bipush (v := 32) C dX10_firstRateInReach_25 (by decide) ?_
    refine jj_icmp_geF (tgt := 89) C dX10_firstRateInReach_27 (by decide) (by decide) ?_
    refine jj_iload C dX10_firstRateInReach_30 rfl ?_
    refine jj_iload C dX10_firstRateInReach_32 rfl ?_
    refine jj_icmp_geF (tgt := 89) C dX10_firstRateInReach_34 (by decide) (by decide) ?_
    refine jj_iload C dX10_firstRateInReach_37 rfl ?_
    refine jj_iload C dX10_firstRateInReach_39 rfl ?_
    refine jj_iadd (v := (-16813)) C dX10_firstRateInReach_41 (by decide) ?_
    refine jj_iconst (v := 2) C dX10_firstRateInReach_42 (by decide) ?_
    refine jq_callS (rest := []) C (ct_J9_floorDiv_7cf53_5 hl D cA ak) [] [0, 1, 2] rfl rfl (by decide) (by decide) (by decide) jw_592 jw_593 jw_286 jw_591 jn_J9_floorDiv_7cf53 rfl (jj_le rfl) (jj_le rfl) (jj_le rfl) (jj_le rfl) (jj_le rfl) dX10_firstRateInReach_43 rfl (fun _ _ hX => hX.elim) (fun w1 r O_21 => ?_)
    obtain ⟨rfl, rfl⟩ := O_21
    refine jj_apd rfl ?_
    refine jj_istore C dX10_firstRateInReach_46 (by decide) rfl ?_
    refine jj_aload_n C dX10_firstRateInReach_48 rfl ?_
    refine jj_get C jk_11 5 (by decide) jw_159 0 rfl rfl dX10_firstRateInReach_49 ?_
    refine jj_aload_n C dX10_firstRateInReach_52 rfl ?_
    refine jj_get C jk_11 3 (by decide) jw_135 0 rfl rfl dX10_firstRateInReach_53 ?_
    refine jj_iload_n C dX10_firstRateInReach_56 rfl ?_
    refine jj_iload C dX10_firstRateInReach_57 rfl ?_
    refine jq_callV (rest := []) C (ct_X1_payAfterRate_1 hl D cA ak h2 h1 h11 h7 h8 h9 h10 a0 (-8407)) [1, 2] [0] rfl rfl (by decide) (by decide) (by decide) 0 rfl rfl rfl jw_535 jw_536 jw_537 jw_146 jw_534 jn_X1_payAfterRate rfl (jj_le rfl) (jj_le rfl) (jj_le rfl) (jj_le rfl) (jj_le rfl) dX10_firstRateInReach_59 rfl (fun _ _ hX => hX.elim) (fun w1 r O_23 => ?_)
    obtain ⟨rfl, rfl⟩ := O_23
    refine jj_apd rfl ?_
    refine jj_lload C dX10_firstRateInReach_62 rfl ?_
    refine jj_ladd (v := 0) C dX10_firstRateInReach_64 (by decide) ?_
    refine jj_lload_n C dX10_firstRateInReach_65 rfl ?_
    refine jj_lcmp_geT (tgt := 79) C dX10_firstRateInReach_66 dX10_firstRateInReach_67 (by decide) c_7 ?_
    refine jj_iload C dX10_firstRateInReach_79 rfl ?_
    refine jj_istore C dX10_firstRateInReach_81 (by decide) rfl ?_
    refine jj_iinc (v := 5) C dX10_firstRateInReach_83 rfl (by decide) (by decide) rfl ?_
    refine jj_goto (tgt := 23) C dX10_firstRateInReach_86 (by decide) ?_
    refine jj_iload C dX10_firstRateInReach_23 rfl ?_
    refine jj_bipush (v := 32) C dX10_firstRateInReach_25 (by decide) ?_
    refine jj_icmp_geF (tgt := 89) C dX10_firstRateInReach_27 (by decide) (by decide) ?_
    refine jj_iload C dX10_firstRateInReach_30 rfl ?_
    refine jj_iload C dX10_firstRateInReach_32 rfl ?_
    refine jj_icmp_geF (tgt := 89) C dX10_firstRateInReach_34 (by decide) (by decide) ?_
    refine jj_iload C dX10_firstRateInReach_37 rfl ?_
    refine jj_iload C dX10_firstRateInReach_39 rfl ?_
    refine jj_iadd (v := (-17407)) C dX10_firstRateInReach_41 (by decide) ?_
    refine jj_iconst (v := 2) C dX10_firstRateInReach_42 (by decide) ?_
    refine jq_callS (rest := []) C (ct_J9_floorDiv_7cf53_6 hl D cA ak) [] [0, 1, 2] rfl rfl (by decide) (by decide) (by decide) jw_592 jw_593 jw_286 jw_591 jn_J9_floorDiv_7cf53 rfl (jj_le rfl) (jj_le rfl) (jj_le rfl) (jj_le rfl) (jj_le rfl) dX10_firstRateInReach_43 rfl (fun _ _ hX => hX.elim) (fun w1 r O_25 => ?_)
    obtain ⟨rfl, rfl⟩ := O_25
    refine jj_apd rfl ?_
    refine jj_istore C dX10_firstRateInReach_46 (by decide) rfl ?_
    refine jj_aload_n C dX10_firstRateInReach_48 rfl ?_
    refine jj_get C jk_11 5 (by decide) jw_159 0 rfl rfl dX10_firstRateInReach_49 ?_
    refine jj_aload_n C dX10_firstRateInReach_52 rfl ?_
    refine jj_get C jk_11 3 (by decide) jw_135 0 rfl rfl dX10_firstRateInReach_53 ?_
    refine jj_iload_n C dX10_firstRateInReach_56 rfl ?_
    refine jj_iload C dX10_firstRateInReach_57 rfl ?_
    refine jq_callV (rest := []) C (ct_X1_payAfterRate_1 hl D cA ak h2 h1 h11 h7 h8 h9 h10 a0 (-8704)) [1, 2] [0] rfl rfl (by decide) (by decide) (by decide) 0 rfl rfl rfl jw_535 jw_536 jw_537 jw_146 jw_534 jn_X1_payAfterRate rfl (jj_le rfl) (jj_le rfl) (jj_le rfl) (jj_le rfl) (jj_le rfl) dX10_firstRateInReach_59 rfl (fun _ _ hX => hX.elim) (fun w1 r O_27 => ?_)
    obtain ⟨rfl, rfl⟩ := O_27
    refine jj_apd rfl ?_
    refine jj_lload C dX10_firstRateInReach_62 rfl ?_
    refine jj_ladd (v := 0) C dX10_firstRateInReach_64 (by decide) ?_
    refine jj_lload_n C dX10_firstRateInReach_65 rfl ?_
    refine jj_lcmp_geT (tgt := 79) C dX10_firstRateInReach_66 dX10_firstRateInReach_67 (by decide) c_7 ?_
    refine jj_iload C dX10_firstRateInReach_79 rfl ?_
    refine jj_istore C dX10_firstRateInReach_81 (by decide) rfl ?_
    refine jj_iinc (v := 6) C dX10_firstRateInReach_83 rfl (by decide) (by decide) rfl ?_
    refine jj_goto (tgt := 23) C dX10_firstRateInReach_86 (by decide) ?_
    refine jj_iload C dX10_firstRateInReach_23 rfl ?_
    refine jj_bipush (v := 32) C dX10_firstRateInReach_25 (by decide) ?_
    refine jj_icmp_geF (tgt := 89) C dX10_firstRateInReach_27 (by decide) (by decide) ?_
    refine jj_iload C dX10_firstRateInReach_30 rfl ?_
    refine jj_iload C dX10_firstRateInReach_32 rfl ?_
    refine jj_icmp_geF (tgt := 89) C dX10_firstRateInReach_34 (by decide) (by decide) ?_
    refine jj_iload C dX10_firstRateInReach_37 rfl ?_
    refine jj_iload C dX10_firstRateInReach_39 rfl ?_
    refine jj_iadd (v := (-17704)) C dX10_firstRateInReach_41 (by decide) ?_
    refine jj_iconst (v := 2) C dX10_firstRateInReach_42 (by decide) ?_
    refine jq_callS (rest := []) C (ct_J9_floorDiv_7cf53_7 hl D cA ak) [] [0, 1, 2] rfl rfl (by decide) (by decide) (by decide) jw_592 jw_593 jw_286 jw_591 jn_J9_floorDiv_7cf53 rfl (jj_le rfl) (jj_le rfl) (jj_le rfl) (jj_le rfl) (jj_le rfl) dX10_firstRateInReach_43 rfl (fun _ _ hX => hX.elim) (fun w1 r O_29 => ?_)
    obtain ⟨rfl, rfl⟩ := O_29
    refine jj_apd rfl ?_
    refine jj_istore C dX10_firstRateInReach_46 (by decide) rfl ?_
    refine jj_aload_n C dX10_firstRateInReach_48 rfl ?_
    refine jj_get C jk_11 5 (by decide) jw_159 0 rfl rfl dX10_firstRateInReach_49 ?_
    refine jj_aload_n C dX10_firstRateInReach_52 rfl ?_
    refine jj_get C jk_11 3 (by decide) jw_135 0 rfl rfl dX10_firstRateInReach_53 ?_
    refine jj_iload_n C dX10_firstRateInReach_56 rfl ?_
    refine jj_iload C dX10_firstRateInReach_57 rfl ?_
    refine jq_callV (rest := []) C (ct_X1_payAfterRate_1 hl D cA ak h2 h1 h11 h7 h8 h9 h10 a0 (-8852)) [1, 2] [0] rfl rfl (by decide) (by decide) (by decide) 0 rfl rfl rfl jw_535 jw_536 jw_537 jw_146 jw_534 jn_X1_payAfterRate rfl (jj_le rfl) (jj_le rfl) (jj_le rfl) (jj_le rfl) (jj_le rfl) dX10_firstRateInReach_59 rfl (fun _ _ hX => hX.elim) (fun w1 r O_31 => ?_)
    obtain ⟨rfl, rfl⟩ := O_31
    refine jj_apd rfl ?_
    refine jj_lload C dX10_firstRateInReach_62 rfl ?_
    refine jj_ladd (v := 0) C dX10_firstRateInReach_64 (by decide) ?_
    refine jj_lload_n C dX10_firstRateInReach_65 rfl ?_
    refine jj_lcmp_geT (tgt := 79) C dX10_firstRateInReach_66 dX10_firstRateInReach_67 (by decide) c_7 ?_
    refine jj_iload C dX10_firstRateInReach_79 rfl ?_
    refine jj_istore C dX10_firstRateInReach_81 (by decide) rfl ?_
    refine jj_iinc (v := 7) C dX10_firstRateInReach_83 rfl (by decide) (by decide) rfl ?_
    refine jj_goto (tgt := 23) C dX10_firstRateInReach_86 (by decide) ?_
    refine jj_iload C dX10_firstRateInReach_23 rfl ?_
    refine jj_bipush (v := 32) C dX10_firstRateInReach_25 (by decide) ?_
    refine jj_icmp_geF (tgt := 89) C dX10_firstRateInReach_27 (by decide) (by decide) ?_
    refine jj_iload C dX10_firstRateInReach_30 rfl ?_
    refine jj_iload C dX10_firstRateInReach_32 rfl ?_
    refine jj_icmp_geF (tgt := 89) C dX10_firstRateInReach_34 (by decide) (by decide) ?_
    refine jj_iload C dX10_firstRateInReach_37 rfl ?_
    refine jj_iload C dX10_firstRateInReach_39 rfl ?_
    refine jj_iadd (v := (-17852)) C dX10_firstRateInReach_41 (by decide) ?_
    refine jj_iconst (v := 2) C dX10_firstRateInReach_42 (by decide) ?_
    refine jq_callS (rest := []) C (ct_J9_floorDiv_7cf53_8 hl D cA ak) [] [0, 1, 2] rfl rfl (by decide) (by decide) (by decide) jw_592 jw_593 jw_286 jw_591 jn_J9_floorDiv_7cf53 rfl (jj_le rfl) (jj_le rfl) (jj_le rfl) (jj_le rfl) (jj_le rfl) dX10_firstRateInReach_43 rfl (fun _ _ hX => hX.elim) (fun w1 r O_33 => ?_)
    obtain ⟨rfl, rfl⟩ := O_33
    refine jj_apd rfl ?_
    refine jj_istore C dX10_firstRateInReach_46 (by decide) rfl ?_
    refine jj_aload_n C dX10_firstRateInReach_48 rfl ?_
    refine jj_get C jk_11 5 (by decide) jw_159 0 rfl rfl dX10_firstRateInReach_49 ?_
    refine jj_aload_n C dX10_firstRateInReach_52 rfl ?_
    refine jj_get C jk_11 3 (by decide) jw_135 0 rfl rfl dX10_firstRateInReach_53 ?_
    refine jj_iload_n C dX10_firstRateInReach_56 rfl ?_
    refine jj_iload C dX10_firstRateInReach_57 rfl ?_
    refine jq_callV (rest := []) C (ct_X1_payAfterRate_1 hl D cA ak h2 h1 h11 h7 h8 h9 h10 a0 (-8926)) [1, 2] [0] rfl rfl (by decide) (by decide) (by decide) 0 rfl rfl rfl jw_535 jw_536 jw_537 jw_146 jw_534 jn_X1_payAfterRate rfl (jj_le rfl) (jj_le rfl) (jj_le rfl) (jj_le rfl) (jj_le rfl) dX10_firstRateInReach_59 rfl (fun _ _ hX => hX.elim) (fun w1 r O_35 => ?_)
    obtain ⟨rfl, rfl⟩ := O_35
    refine jj_apd rfl ?_
    refine jj_lload C dX10_firstRateInReach_62 rfl ?_
    refine jj_ladd (v := 0) C dX10_firstRateInReach_64 (by decide) ?_
    refine jj_lload_n C dX10_firstRateInReach_65 rfl ?_
    refine jj_lcmp_geT (tgt := 79) C dX10_firstRateInReach_66 dX10_firstRateInReach_67 (by decide) c_7 ?_
    refine jj_iload C dX10_firstRateInReach_79 rfl ?_
    refine jj_istore C dX10_firstRateInReach_81 (by decide) rfl ?_
    refine jj_iinc (v := 8) C dX10_firstRateInReach_83 rfl (by decide) (by decide) rfl ?_
    refine jj_goto (tgt := 23) C dX10_firstRateInReach_86 (by decide) ?_
    refine jj_iload C dX10_firstRateInReach_23 rfl ?_
    refine jj_bipush (v := 32) C dX10_firstRateInReach_25 (by decide) ?_
    refine jj_icmp_geF (tgt := 89) C dX10_firstRateInReach_27 (by decide) (by decide) ?_
    refine jj_iload C dX10_firstRateInReach_30 rfl ?_
    refine jj_iload C dX10_firstRateInReach_32 rfl ?_
    refine jj_icmp_geF (tgt := 89) C dX10_firstRateInReach_34 (by decide) (by decide) ?_
    refine jj_iload C dX10_firstRateInReach_37 rfl ?_
    refine jj_iload C dX10_firstRateInReach_39 rfl ?_
    refine jj_iadd (v := (-17926)) C dX10_firstRateInReach_41 (by decide) ?_
    refine jj_iconst (v := 2) C dX10_firstRateInReach_42 (by decide) ?_
    refine jq_callS (rest := []) C (ct_J9_floorDiv_7cf53_9 hl D cA ak) [] [0, 1, 2] rfl rfl (by decide) (by decide) (by decide) jw_592 jw_593 jw_286 jw_591 jn_J9_floorDiv_7cf53 rfl (jj_le rfl) (jj_le rfl) (jj_le rfl) (jj_le rfl) (jj_le rfl) dX10_firstRateInReach_43 rfl (fun _ _ hX => hX.elim) (fun w1 r O_37 => ?_)
    obtain ⟨rfl, rfl⟩ := O_37
    refine jj_apd rfl ?_
    refine jj_istore C dX10_firstRateInReach_46 (by decide) rfl ?_
    refine jj_aload_n C dX10_firstRateInReach_48 rfl ?_
    refine jj_get C jk_11 5 (by decide) jw_159 0 rfl rfl dX10_firstRateInReach_49 ?_
    refine jj_aload_n C dX10_firstRateInReach_52 rfl ?_
    refine jj_get C jk_11 3 (by decide) jw_135 0 rfl rfl dX10_firstRateInReach_53 ?_
    refine jj_iload_n C dX10_firstRateInReach_56 rfl ?_
    refine jj_iload C dX10_firstRateInReach_57 rfl ?_
    refine jq_callV (rest := []) C (ct_X1_payAfterRate_1 hl D cA ak h2 h1 h11 h7 h8 h9 h10 a0 (-8963)) [1, 2] [0] rfl rfl (by decide) (by decide) (by decide) 0 rfl rfl rfl jw_535 jw_536 jw_537 jw_146 jw_534 jn_X1_payAfterRate rfl (jj_le rfl) (jj_le rfl) (jj_le rfl) (jj_le rfl) (jj_le rfl) dX10_firstRateInReach_59 rfl (fun _ _ hX => hX.elim) (fun w1 r O_39 => ?_)
    obtain ⟨rfl, rfl⟩ := O_39
    refine jj_apd rfl ?_
    refine jj_lload C dX10_firstRateInReach_62 rfl ?_
    refine jj_ladd (v := 0) C dX10_firstRateInReach_64 (by decide) ?_
    refine jj_lload_n C dX10_firstRateInReach_65 rfl ?_
    refine jj_lcmp_geT (tgt := 79) C dX10_firstRateInReach_66 dX10_firstRateInReach_67 (by decide) c_7 ?_
    refine jj_iload C dX10_firstRateInReach_79 rfl ?_
    refine jj_istore C dX10_firstRateInReach_81 (by decide) rfl ?_
    refine jj_iinc (v := 9) C dX10_firstRateInReach_83 rfl (by decide) (by decide) rfl ?_
    refine jj_goto (tgt := 23) C dX10_firstRateInReach_86 (by decide) ?_
    refine jj_iload C dX10_firstRateInReach_23 rfl ?_
    refine jj_bipush (v := 32) C dX10_firstRateInReach_25 (by decide) ?_
    refine jj_icmp_geF (tgt := 89) C dX10_firstRateInReach_27 (by decide) (by decide) ?_
    refine jj_iload C dX10_firstRateInReach_30 rfl ?_
    refine jj_iload C dX10_firstRateInReach_32 rfl ?_
    refine jj_icmp_geF (tgt := 89) C dX10_firstRateInReach_34 (by decide) (by decide) ?_
    refine jj_iload C dX10_firstRateInReach_37 rfl ?_
    refine jj_iload C dX10_firstRateInReach_39 rfl ?_
    refine jj_iadd (v := (-17963)) C dX10_firstRateInReach_41 (by decide) ?_
    refine jj_iconst (v := 2) C dX10_firstRateInReach_42 (by decide) ?_
    refine jq_callS (rest := []) C (ct_J9_floorDiv_7cf53_10 hl D cA ak) [] [0, 1, 2] rfl rfl (by decide) (by decide) (by decide) jw_592 jw_593 jw_286 jw_591 jn_J9_floorDiv_7cf53 rfl (jj_le rfl) (jj_le rfl) (jj_le rfl) (jj_le rfl) (jj_le rfl) dX10_firstRateInReach_43 rfl (fun _ _ hX => hX.elim) (fun w1 r O_41 => ?_)
    obtain ⟨rfl, rfl⟩ := O_41
    refine jj_apd rfl ?_
    refine jj_istore C dX10_firstRateInReach_46 (by decide) rfl ?_
    refine jj_aload_n C dX10_firstRateInReach_48 rfl ?_
    refine jj_get C jk_11 5 (by decide) jw_159 0 rfl rfl dX10_firstRateInReach_49 ?_
    refine jj_aload_n C dX10_firstRateInReach_52 rfl ?_
    refine jj_get C jk_11 3 (by decide) jw_135 0 rfl rfl dX10_firstRateInReach_53 ?_
    refine jj_iload_n C dX10_firstRateInReach_56 rfl ?_
    refine jj_iload C dX10_firstRateInReach_57 rfl ?_
    refine jq_callV (rest := []) C (ct_X1_payAfterRate_1 hl D cA ak h2 h1 h11 h7 h8 h9 h10 a0 (-8982)) [1, 2] [0] rfl rfl (by decide) (by decide) (by decide) 0 rfl rfl rfl jw_535 jw_536 jw_537 jw_146 jw_534 jn_X1_payAfterRate rfl (jj_le rfl) (jj_le rfl) (jj_le rfl) (jj_le rfl) (jj_le rfl) dX10_firstRateInReach_59 rfl (fun _ _ hX => hX.elim) (fun w1 r O_43 => ?_)
    obtain ⟨rfl, rfl⟩ := O_43
    refine jj_apd rfl ?_
    refine jj_lload C dX10_firstRateInReach_62 rfl ?_
    refine jj_ladd (v := 0) C dX10_firstRateInReach_64 (by decide) ?_
    refine jj_lload_n C dX10_firstRateInReach_65 rfl ?_
    refine jj_lcmp_geT (tgt := 79) C dX10_firstRateInReach_66 dX10_firstRateInReach_67 (by decide) c_7 ?_
    refine jj_iload C dX10_firstRateInReach_79 rfl ?_
    refine jj_istore C dX10_firstRateInReach_81 (by decide) rfl ?_
    refine jj_iinc (v := 10) C dX10_firstRateInReach_83 rfl (by decide) (by decide) rfl ?_
    refine jj_goto (tgt := 23) C dX10_firstRateInReach_86 (by decide) ?_
    refine jj_iload C dX10_firstRateInReach_23 rfl ?_
    refine jj_bipush (v := 32) C dX10_firstRateInReach_25 (by decide) ?_
    refine jj_icmp_geF (tgt := 89) C dX10_firstRateInReach_27 (by decide) (by decide) ?_
    refine jj_iload C dX10_firstRateInReach_30 rfl ?_
    refine jj_iload C dX10_firstRateInReach_32 rfl ?_
    refine jj_icmp_geF (tgt := 89) C dX10_firstRateInReach_34 (by decide) (by decide) ?_
    refine jj_iload C dX10_firstRateInReach_37 rfl ?_
    refine jj_iload C dX10_firstRateInReach_39 rfl ?_
    refine jj_iadd (v := (-17982)) C dX10_firstRateInReach_41 (by decide) ?_
    refine jj_iconst (v := 2) C dX10_firstRateInReach_42 (by decide) ?_
    refine jq_callS (rest := []) C (ct_J9_floorDiv_7cf53_11 hl D cA ak) [] [0, 1, 2] rfl rfl (by decide) (by decide) (by decide) jw_592 jw_593 jw_286 jw_591 jn_J9_floorDiv_7cf53 rfl (jj_le rfl) (jj_le rfl) (jj_le rfl) (jj_le rfl) (jj_le rfl) dX10_firstRateInReach_43 rfl (fun _ _ hX => hX.elim) (fun w1 r O_45 => ?_)
    obtain ⟨rfl, rfl⟩ := O_45
    refine jj_apd rfl ?_
    refine jj_istore C dX10_firstRateInReach_46 (by decide) rfl ?_
    refine jj_aload_n C dX10_firstRateInReach_48 rfl ?_
    refine jj_get C jk_11 5 (by decide) jw_159 0 rfl rfl dX10_firstRateInReach_49 ?_
    refine jj_aload_n C dX10_firstRateInReach_52 rfl ?_
    refine jj_get C jk_11 3 (by decide) jw_135 0 rfl rfl dX10_firstRateInReach_53 ?_
    refine jj_iload_n C dX10_firstRateInReach_56 rfl ?_
    refine jj_iload C dX10_firstRateInReach_57 rfl ?_
    refine jq_callV (rest := []) C (ct_X1_payAfterRate_1 hl D cA ak h2 h1 h11 h7 h8 h9 h10 a0 (-8991)) [1, 2] [0] rfl rfl (by decide) (by decide) (by decide) 0 rfl rfl rfl jw_535 jw_536 jw_537 jw_146 jw_534 jn_X1_payAfterRate rfl (jj_le rfl) (jj_le rfl) (jj_le rfl) (jj_le rfl) (jj_le rfl) dX10_firstRateInReach_59 rfl (fun _ _ hX => hX.elim) (fun w1 r O_47 => ?_)
    obtain ⟨rfl, rfl⟩ := O_47
    refine jj_apd rfl ?_
    refine jj_lload C dX10_firstRateInReach_62 rfl ?_
    refine jj_ladd (v := 0) C dX10_firstRateInReach_64 (by decide) ?_
    refine jj_lload_n C dX10_firstRateInReach_65 rfl ?_
    refine jj_lcmp_geT (tgt := 79) C dX10_firstRateInReach_66 dX10_firstRateInReach_67 (by decide) c_7 ?_
    refine jj_iload C dX10_firstRateInReach_79 rfl ?_
    refine jj_istore C dX10_firstRateInReach_81 (by decide) rfl ?_
    refine jj_iinc (v := 11) C dX10_firstRateInReach_83 rfl (by decide) (by decide) rfl ?_
    refine jj_goto (tgt := 23) C dX10_firstRateInReach_86 (by decide) ?_
    refine jj_iload C dX10_firstRateInReach_23 rfl ?_
    refine jj_bipush (v := 32) C dX10_firstRateInReach_25 (by decide) ?_
    refine jj_icmp_geF (tgt := 89) C dX10_firstRateInReach_27 (by decide) (by decide) ?_
    refine jj_iload C dX10_firstRateInReach_30 rfl ?_
    refine jj_iload C dX10_firstRateInReach_32 rfl ?_
    refine jj_icmp_geF (tgt := 89) C dX10_firstRateInReach_34 (by decide) (by decide) ?_
    refine jj_iload C dX10_firstRateInReach_37 rfl ?_
    refine jj_iload C dX10_firstRateInReach_39 rfl ?_
    refine jj_iadd (v := (-17991)) C dX10_firstRateInReach_41 (by decide) ?_
    refine jj_iconst (v := 2) C dX10_firstRateInReach_42 (by decide) ?_
    refine jq_callS (rest := []) C (ct_J9_floorDiv_7cf53_12 hl D cA ak) [] [0, 1, 2] rfl rfl (by decide) (by decide) (by decide) jw_592 jw_593 jw_286 jw_591 jn_J9_floorDiv_7cf53 rfl (jj_le rfl) (jj_le rfl) (jj_le rfl) (jj_le rfl) (jj_le rfl) dX10_firstRateInReach_43 rfl (fun _ _ hX => hX.elim) (fun w1 r O_49 => ?_)
    obtain ⟨rfl, rfl⟩ := O_49
    refine jj_apd rfl ?_
    refine jj_istore C dX10_firstRateInReach_46 (by decide) rfl ?_
    refine jj_aload_n C dX10_firstRateInReach_48 rfl ?_
    refine jj_get C jk_11 5 (by decide) jw_159 0 rfl rfl dX10_firstRateInReach_49 ?_
    refine jj_aload_n C dX10_firstRateInReach_52 rfl ?_
    refine jj_get C jk_11 3 (by decide) jw_135 0 rfl rfl dX10_firstRateInReach_53 ?_
    refine jj_iload_n C dX10_firstRateInReach_56 rfl ?_
    refine jj_iload C dX10_firstRateInReach_57 rfl ?_
    refine jq_callV (rest := []) C (ct_X1_payAfterRate_1 hl D cA ak h2 h1 h11 h7 h8 h9 h10 a0 (-8996)) [1, 2] [0] rfl rfl (by decide) (by decide) (by decide) 0 rfl rfl rfl jw_535 jw_536 jw_537 jw_146 jw_534 jn_X1_payAfterRate rfl (jj_le rfl) (jj_le rfl) (jj_le rfl) (jj_le rfl) (jj_le rfl) dX10_firstRateInReach_59 rfl (fun _ _ hX => hX.elim) (fun w1 r O_51 => ?_)
    obtain ⟨rfl, rfl⟩ := O_51
    refine jj_apd rfl ?_
    refine jj_lload C dX10_firstRateInReach_62 rfl ?_
    refine jj_ladd (v := 0) C dX10_firstRateInReach_64 (by decide) ?_
    refine jj_lload_n C dX10_firstRateInReach_65 rfl ?_
    refine jj_lcmp_geT (tgt := 79) C dX10_firstRateInReach_66 dX10_firstRateInReach_67 (by decide) c_7 ?_
    refine jj_iload C dX10_firstRateInReach_79 rfl ?_
    refine jj_istore C dX10_firstRateInReach_81 (by decide) rfl ?_
    refine jj_iinc (v := 12) C dX10_firstRateInReach_83 rfl (by decide) (by decide) rfl ?_
    refine jj_goto (tgt := 23) C dX10_firstRateInReach_86 (by decide) ?_
    refine jj_iload C dX10_firstRateInReach_23 rfl ?_
    refine jj_bipush (v := 32) C dX10_firstRateInReach_25 (by decide) ?_
    refine jj_icmp_geF (tgt := 89) C dX10_firstRateInReach_27 (by decide) (by decide) ?_
    refine jj_iload C dX10_firstRateInReach_30 rfl ?_
    refine jj_iload C dX10_firstRateInReach_32 rfl ?_
    refine jj_icmp_geF (tgt := 89) C dX10_firstRateInReach_34 (by decide) (by decide) ?_
    refine jj_iload C dX10_firstRateInReach_37 rfl ?_
    refine jj_iload C dX10_firstRateInReach_39 rfl ?_
    refine jj_iadd (v := (-17996)) C dX10_firstRateInReach_41 (by decide) ?_
    refine jj_iconst (v := 2) C dX10_firstRateInReach_42 (by decide) ?_
    refine jq_callS (rest := []) C (ct_J9_floorDiv_7cf53_13 hl D cA ak) [] [0, 1, 2] rfl rfl (by decide) (by decide) (by decide) jw_592 jw_593 jw_286 jw_591 jn_J9_floorDiv_7cf53 rfl (jj_le rfl) (jj_le rfl) (jj_le rfl) (jj_le rfl) (jj_le rfl) dX10_firstRateInReach_43 rfl (fun _ _ hX => hX.elim) (fun w1 r O_53 => ?_)
    obtain ⟨rfl, rfl⟩ := O_53
    refine jj_apd rfl ?_
    refine jj_istore C dX10_firstRateInReach_46 (by decide) rfl ?_
    refine jj_aload_n C dX10_firstRateInReach_48 rfl ?_
    refine jj_get C jk_11 5 (by decide) jw_159 0 rfl rfl dX10_firstRateInReach_49 ?_
    refine jj_aload_n C dX10_firstRateInReach_52 rfl ?_
    refine jj_get C jk_11 3 (by decide) jw_135 0 rfl rfl dX10_firstRateInReach_53 ?_
    refine jj_iload_n C dX10_firstRateInReach_56 rfl ?_
    refine jj_iload C dX10_firstRateInReach_57 rfl ?_
    refine jq_callV (rest := []) C (ct_X1_payAfterRate_1 hl D cA ak h2 h1 h11 h7 h8 h9 h10 a0 (-8998)) [1, 2] [0] rfl rfl (by decide) (by decide) (by decide) 0 rfl rfl rfl jw_535 jw_536 jw_537 jw_146 jw_534 jn_X1_payAfterRate rfl (jj_le rfl) (jj_le rfl) (jj_le rfl) (jj_le rfl) (jj_le rfl) dX10_firstRateInReach_59 rfl (fun _ _ hX => hX.elim) (fun w1 r O_55 => ?_)
    obtain ⟨rfl, rfl⟩ := O_55
    refine jj_apd rfl ?_
    refine jj_lload C dX10_firstRateInReach_62 rfl ?_
    refine jj_ladd (v := 0) C dX10_firstRateInReach_64 (by decide) ?_
    refine jj_lload_n C dX10_firstRateInReach_65 rfl ?_
    refine jj_lcmp_geT (tgt := 79) C dX10_firstRateInReach_66 dX10_firstRateInReach_67 (by decide) c_7 ?_
    refine jj_iload C dX10_firstRateInReach_79 rfl ?_
    refine jj_istore C dX10_firstRateInReach_81 (by decide) rfl ?_
    refine jj_iinc (v := 13) C dX10_firstRateInReach_83 rfl (by decide) (by decide) rfl ?_
    refine jj_goto (tgt := 23) C dX10_firstRateInReach_86 (by decide) ?_
    refine jj_iload C dX10_firstRateInReach_23 rfl ?_
    refine jj_bipush (v := 32) C dX10_firstRateInReach_25 (by decide) ?_
    refine jj_icmp_geF (tgt := 89) C dX10_firstRateInReach_27 (by decide) (by decide) ?_
    refine jj_iload C dX10_firstRateInReach_30 rfl ?_
    refine jj_iload C dX10_firstRateInReach_32 rfl ?_
    refine jj_icmp_geF (tgt := 89) C dX10_firstRateInReach_34 (by decide) (by decide) ?_
    refine jj_iload C dX10_firstRateInReach_37 rfl ?_
    refine jj_iload C dX10_firstRateInReach_39 rfl ?_
    refine jj_iadd (v := (-17998)) C dX10_firstRateInReach_41 (by decide) ?_
    refine jj_iconst (v := 2) C dX10_firstRateInReach_42 (by decide) ?_
    refine jq_callS (rest := []) C (ct_J9_floorDiv_7cf53_14 hl D cA ak) [] [0, 1, 2] rfl rfl (by decide) (by decide) (by decide) jw_592 jw_593 jw_286 jw_591 jn_J9_floorDiv_7cf53 rfl (jj_le rfl) (jj_le rfl) (jj_le rfl) (jj_le rfl) (jj_le rfl) dX10_firstRateInReach_43 rfl (fun _ _ hX => hX.elim) (fun w1 r O_57 => ?_)
    obtain ⟨rfl, rfl⟩ := O_57
    refine jj_apd rfl ?_
    refine jj_istore C dX10_firstRateInReach_46 (by decide) rfl ?_
    refine jj_aload_n C dX10_firstRateInReach_48 rfl ?_
    refine jj_get C jk_11 5 (by decide) jw_159 0 rfl rfl dX10_firstRateInReach_49 ?_
    refine jj_aload_n C dX10_firstRateInReach_52 rfl ?_
    refine jj_get C jk_11 3 (by decide) jw_135 0 rfl rfl dX10_firstRateInReach_53 ?_
    refine jj_iload_n C dX10_firstRateInReach_56 rfl ?_
    refine jj_iload C dX10_firstRateInReach_57 rfl ?_
    refine jq_callV (rest := []) C (ct_X1_payAfterRate_1 hl D cA ak h2 h1 h11 h7 h8 h9 h10 a0 (-8999)) [1, 2] [0] rfl rfl (by decide) (by decide) (by decide) 0 rfl rfl rfl jw_535 jw_536 jw_537 jw_146 jw_534 jn_X1_payAfterRate rfl (jj_le rfl) (jj_le rfl) (jj_le rfl) (jj_le rfl) (jj_le rfl) dX10_firstRateInReach_59 rfl (fun _ _ hX => hX.elim) (fun w1 r O_59 => ?_)
    obtain ⟨rfl, rfl⟩ := O_59
    refine jj_apd rfl ?_
    refine jj_lload C dX10_firstRateInReach_62 rfl ?_
    refine jj_ladd (v := 0) C dX10_firstRateInReach_64 (by decide) ?_
    refine jj_lload_n C dX10_firstRateInReach_65 rfl ?_
    refine jj_lcmp_geT (tgt := 79) C dX10_firstRateInReach_66 dX10_firstRateInReach_67 (by decide) c_7 ?_
    refine jj_iload C dX10_firstRateInReach_79 rfl ?_
    refine jj_istore C dX10_firstRateInReach_81 (by decide) rfl ?_
    refine jj_iinc (v := 14) C dX10_firstRateInReach_83 rfl (by decide) (by decide) rfl ?_
    refine jj_goto (tgt := 23) C dX10_firstRateInReach_86 (by decide) ?_
    refine jj_iload C dX10_firstRateInReach_23 rfl ?_
    refine jj_bipush (v := 32) C dX10_firstRateInReach_25 (by decide) ?_
    refine jj_icmp_geF (tgt := 89) C dX10_firstRateInReach_27 (by decide) (by decide) ?_
    refine jj_iload C dX10_firstRateInReach_30 rfl ?_
    refine jj_iload C dX10_firstRateInReach_32 rfl ?_
    refine jj_icmp_geF (tgt := 89) C dX10_firstRateInReach_34 (by decide) (by decide) ?_
    refine jj_iload C dX10_firstRateInReach_37 rfl ?_
    refine jj_iload C dX10_firstRateInReach_39 rfl ?_
    refine jj_iadd (v := (-17999)) C dX10_firstRateInReach_41 (by decide) ?_
    refine jj_iconst (v := 2) C dX10_firstRateInReach_42 (by decide) ?_
    refine jq_callS (rest := []) C (ct_J9_floorDiv_7cf53_15 hl D cA ak) [] [0, 1, 2] rfl rfl (by decide) (by decide) (by decide) jw_592 jw_593 jw_286 jw_591 jn_J9_floorDiv_7cf53 rfl (jj_le rfl) (jj_le rfl) (jj_le rfl) (jj_le rfl) (jj_le rfl) dX10_firstRateInReach_43 rfl (fun _ _ hX => hX.elim) (fun w1 r O_61 => ?_)
    obtain ⟨rfl, rfl⟩ := O_61
    refine jj_apd rfl ?_
    refine jj_istore C dX10_firstRateInReach_46 (by decide) rfl ?_
    refine jj_aload_n C dX10_firstRateInReach_48 rfl ?_
    refine jj_get C jk_11 5 (by decide) jw_159 0 rfl rfl dX10_firstRateInReach_49 ?_
    refine jj_aload_n C dX10_firstRateInReach_52 rfl ?_
    refine jj_get C jk_11 3 (by decide) jw_135 0 rfl rfl dX10_firstRateInReach_53 ?_
    refine jj_iload_n C dX10_firstRateInReach_56 rfl ?_
    refine jj_iload C dX10_firstRateInReach_57 rfl ?_
    refine jq_callV (rest := []) C (ct_X1_payAfterRate_1 hl D cA ak h2 h1 h11 h7 h8 h9 h10 a0 (-9000)) [1, 2] [0] rfl rfl (by decide) (by decide) (by decide) 0 rfl rfl rfl jw_535 jw_536 jw_537 jw_146 jw_534 jn_X1_payAfterRate rfl (jj_le rfl) (jj_le rfl) (jj_le rfl) (jj_le rfl) (jj_le rfl) dX10_firstRateInReach_59 rfl (fun _ _ hX => hX.elim) (fun w1 r O_63 => ?_)
    obtain ⟨rfl, rfl⟩ := O_63
    refine jj_apd rfl ?_
    refine jj_lload C dX10_firstRateInReach_62 rfl ?_
    refine jj_ladd (v := 0) C dX10_firstRateInReach_64 (by decide) ?_
    refine jj_lload_n C dX10_firstRateInReach_65 rfl ?_
    refine jj_lcmp_geT (tgt := 79) C dX10_firstRateInReach_66 dX10_firstRateInReach_67 (by decide) c_7 ?_
    refine jj_iload C dX10_firstRateInReach_79 rfl ?_
    refine jj_istore C dX10_firstRateInReach_81 (by decide) rfl ?_
    refine jj_iinc (v := 15) C dX10_firstRateInReach_83 rfl (by decide) (by decide) rfl ?_
    refine jj_goto (tgt := 23) C dX10_firstRateInReach_86 (by decide) ?_
    refine jj_iload C dX10_firstRateInReach_23 rfl ?_
    refine jj_bipush (v := 32) C dX10_firstRateInReach_25 (by decide) ?_
    refine jj_icmp_geF (tgt := 89) C dX10_firstRateInReach_27 (by decide) (by decide) ?_
    refine jj_iload C dX10_firstRateInReach_30 rfl ?_
    refine jj_iload C dX10_firstRateInReach_32 rfl ?_
    refine jj_icmp_geT (tgt := 89) C dX10_firstRateInReach_34 (by decide) (by decide) ?_
    refine jj_iload C dX10_firstRateInReach_89 rfl ?_
    exact jj_iret C (Or.inl ⟨c_7, rfl, rfl⟩) dX10_firstRateInReach_91 (jj_le rfl) (jj_le rfl)
  · refine jj_iload C dX10_firstRateInReach_70 rfl ?_
    refine jj_iconst (v := 1) C dX10_firstRateInReach_72 (by decide) ?_
    refine jj_iadd (v := 501) C dX10_firstRateInReach_73 (by decide) ?_
    refine jj_istore C dX10_firstRateInReach_74 (by decide) rfl ?_
    refine jj_goto (tgt := 83) C dX10_firstRateInReach_76 (by decide) ?_
    refine jj_iinc (v := 1) C dX10_firstRateInReach_83 rfl (by decide) (by decide) rfl ?_
    refine jj_goto (tgt := 23) C dX10_firstRateInReach_86 (by decide) ?_
    refine jj_iload C dX10_firstRateInReach_23 rfl ?_
    refine jj_bipush (v := 32) C dX10_firstRateInReach_25 (by decide) ?_
    refine jj_icmp_geF (tgt := 89) C dX10_firstRateInReach_27 (by decide) (by decide) ?_
    refine jj_iload C dX10_firstRateInReach_30 rfl ?_
    refine jj_iload C dX10_firstRateInReach_32 rfl ?_
    refine jj_icmp_geF (tgt := 89) C dX10_firstRateInReach_34 (by decide) (by decide) ?_
    refine jj_iload C dX10_firstRateInReach_37 rfl ?_
    refine jj_iload C dX10_firstRateInReach_39 rfl ?_
    refine jj_iadd (v := 10501) C dX10_firstRateInReach_41 (by decide) ?_
    refine jj_iconst (v := 2) C dX10_firstRateInReach_42 (by decide) ?_
    refine jq_callS (rest := []) C (ct_J9_floorDiv_7cf53_16 hl D cA ak) [] [0, 1, 2] rfl rfl (by decide) (by decide) (by decide) jw_592 jw_593 jw_286 jw_591 jn_J9_floorDiv_7cf53 rfl (jj_le rfl) (jj_le rfl) (jj_le rfl) (jj_le rfl) (jj_le rfl) dX10_firstRateInReach_43 rfl (fun _ _ hX => hX.elim) (fun w1 r O_65 => ?_)
    obtain ⟨rfl, rfl⟩ := O_65
    refine jj_apd rfl ?_
    refine jj_istore C dX10_firstRateInReach_46 (by decide) rfl ?_
    refine jj_aload_n C dX10_firstRateInReach_48 rfl ?_
    refine jj_get C jk_11 5 (by decide) jw_159 0 rfl rfl dX10_firstRateInReach_49 ?_
    refine jj_aload_n C dX10_firstRateInReach_52 rfl ?_
    refine jj_get C jk_11 3 (by decide) jw_135 0 rfl rfl dX10_firstRateInReach_53 ?_
    refine jj_iload_n C dX10_firstRateInReach_56 rfl ?_
    refine jj_iload C dX10_firstRateInReach_57 rfl ?_
    refine jq_callV (rest := []) C (ct_X1_payAfterRate_1 hl D cA ak h2 h1 h11 h7 h8 h9 h10 a0 5250) [1, 2] [0] rfl rfl (by decide) (by decide) (by decide) 0 rfl rfl rfl jw_535 jw_536 jw_537 jw_146 jw_534 jn_X1_payAfterRate rfl (jj_le rfl) (jj_le rfl) (jj_le rfl) (jj_le rfl) (jj_le rfl) dX10_firstRateInReach_59 rfl (fun _ _ hX => hX.elim) (fun w1 r O_67 => ?_)
    obtain ⟨rfl, rfl⟩ := O_67
    refine jj_apd rfl ?_
    refine jj_lload C dX10_firstRateInReach_62 rfl ?_
    refine jj_ladd (v := 0) C dX10_firstRateInReach_64 (by decide) ?_
    refine jj_lload_n C dX10_firstRateInReach_65 rfl ?_
    refine jj_lcmp_geF (tgt := 79) C dX10_firstRateInReach_66 dX10_firstRateInReach_67 (by decide) c_7 ?_
    refine jj_iload C dX10_firstRateInReach_70 rfl ?_
    refine jj_iconst (v := 1) C dX10_firstRateInReach_72 (by decide) ?_
    refine jj_iadd (v := 5251) C dX10_firstRateInReach_73 (by decide) ?_
    refine jj_istore C dX10_firstRateInReach_74 (by decide) rfl ?_
    refine jj_goto (tgt := 83) C dX10_firstRateInReach_76 (by decide) ?_
    refine jj_iinc (v := 2) C dX10_firstRateInReach_83 rfl (by decide) (by decide) rfl ?_
    refine jj_goto (tgt := 23) C dX10_firstRateInReach_86 (by decide) ?_
    refine jj_iload C dX10_firstRateInReach_23 rfl ?_
    refine jj_bipush (v := 32) C dX10_firstRateInReach_25 (by decide) ?_
    refine jj_icmp_geF (tgt := 89) C dX10_firstRateInReach_27 (by decide) (by decide) ?_
    refine jj_iload C dX10_firstRateInReach_30 rfl ?_
    refine jj_iload C dX10_firstRateInReach_32 rfl ?_
    refine jj_icmp_geF (tgt := 89) C dX10_firstRateInReach_34 (by decide) (by decide) ?_
    refine jj_iload C dX10_firstRateInReach_37 rfl ?_
    refine jj_iload C dX10_firstRateInReach_39 rfl ?_
    refine jj_iadd (v := 15251) C dX10_firstRateInReach_41 (by decide) ?_
    refine jj_iconst (v := 2) C dX10_firstRateInReach_42 (by decide) ?_
    refine jq_callS (rest := []) C (ct_J9_floorDiv_7cf53_17 hl D cA ak) [] [0, 1, 2] rfl rfl (by decide) (by decide) (by decide) jw_592 jw_593 jw_286 jw_591 jn_J9_floorDiv_7cf53 rfl (jj_le rfl) (jj_le rfl) (jj_le rfl) (jj_le rfl) (jj_le rfl) dX10_firstRateInReach_43 rfl (fun _ _ hX => hX.elim) (fun w1 r O_69 => ?_)
    obtain ⟨rfl, rfl⟩ := O_69
    refine jj_apd rfl ?_
    refine jj_istore C dX10_firstRateInReach_46 (by decide) rfl ?_
    refine jj_aload_n C dX10_firstRateInReach_48 rfl ?_
    refine jj_get C jk_11 5 (by decide) jw_159 0 rfl rfl dX10_firstRateInReach_49 ?_
    refine jj_aload_n C dX10_firstRateInReach_52 rfl ?_
    refine jj_get C jk_11 3 (by decide) jw_135 0 rfl rfl dX10_firstRateInReach_53 ?_
    refine jj_iload_n C dX10_firstRateInReach_56 rfl ?_
    refine jj_iload C dX10_firstRateInReach_57 rfl ?_
    refine jq_callV (rest := []) C (ct_X1_payAfterRate_1 hl D cA ak h2 h1 h11 h7 h8 h9 h10 a0 7625) [1, 2] [0] rfl rfl (by decide) (by decide) (by decide) 0 rfl rfl rfl jw_535 jw_536 jw_537 jw_146 jw_534 jn_X1_payAfterRate rfl (jj_le rfl) (jj_le rfl) (jj_le rfl) (jj_le rfl) (jj_le rfl) dX10_firstRateInReach_59 rfl (fun _ _ hX => hX.elim) (fun w1 r O_71 => ?_)
    obtain ⟨rfl, rfl⟩ := O_71
    refine jj_apd rfl ?_
    refine jj_lload C dX10_firstRateInReach_62 rfl ?_
    refine jj_ladd (v := 0) C dX10_firstRateInReach_64 (by decide) ?_
    refine jj_lload_n C dX10_firstRateInReach_65 rfl ?_
    refine jj_lcmp_geF (tgt := 79) C dX10_firstRateInReach_66 dX10_firstRateInReach_67 (by decide) c_7 ?_
    refine jj_iload C dX10_firstRateInReach_70 rfl ?_
    refine jj_iconst (v := 1) C dX10_firstRateInReach_72 (by decide) ?_
    refine jj_iadd (v := 7626) C dX10_firstRateInReach_73 (by decide) ?_
    refine jj_istore C dX10_firstRateInReach_74 (by decide) rfl ?_
    refine jj_goto (tgt := 83) C dX10_firstRateInReach_76 (by decide) ?_
    refine jj_iinc (v := 3) C dX10_firstRateInReach_83 rfl (by decide) (by decide) rfl ?_
    refine jj_goto (tgt := 23) C dX10_firstRateInReach_86 (by decide) ?_
    refine jj_iload C dX10_firstRateInReach_23 rfl ?_
    refine jj_bipush (v := 32) C dX10_firstRateInReach_25 (by decide) ?_
    refine jj_icmp_geF (tgt := 89) C dX10_firstRateInReach_27 (by decide) (by decide) ?_
    refine jj_iload C dX10_firstRateInReach_30 rfl ?_
    refine jj_iload C dX10_firstRateInReach_32 rfl ?_
    refine jj_icmp_geF (tgt := 89) C dX10_firstRateInReach_34 (by decide) (by decide) ?_
    refine jj_iload C dX10_firstRateInReach_37 rfl ?_
    refine jj_iload C dX10_firstRateInReach_39 rfl ?_
    refine jj_iadd (v := 17626) C dX10_firstRateInReach_41 (by decide) ?_
    refine jj_iconst (v := 2) C dX10_firstRateInReach_42 (by decide) ?_
    refine jq_callS (rest := []) C (ct_J9_floorDiv_7cf53_18 hl D cA ak) [] [0, 1, 2] rfl rfl (by decide) (by decide) (by decide) jw_592 jw_593 jw_286 jw_591 jn_J9_floorDiv_7cf53 rfl (jj_le rfl) (jj_le rfl) (jj_le rfl) (jj_le rfl) (jj_le rfl) dX10_firstRateInReach_43 rfl (fun _ _ hX => hX.elim) (fun w1 r O_73 => ?_)
    obtain ⟨rfl, rfl⟩ := O_73
    refine jj_apd rfl ?_
    refine jj_istore C dX10_firstRateInReach_46 (by decide) rfl ?_
    refine jj_aload_n C dX10_firstRateInReach_48 rfl ?_
    refine jj_get C jk_11 5 (by decide) jw_159 0 rfl rfl dX10_firstRateInReach_49 ?_
    refine jj_aload_n C dX10_firstRateInReach_52 rfl ?_
    refine jj_get C jk_11 3 (by decide) jw_135 0 rfl rfl dX10_firstRateInReach_53 ?_
    refine jj_iload_n C dX10_firstRateInReach_56 rfl ?_
    refine jj_iload C dX10_firstRateInReach_57 rfl ?_
    refine jq_callV (rest := []) C (ct_X1_payAfterRate_1 hl D cA ak h2 h1 h11 h7 h8 h9 h10 a0 8813) [1, 2] [0] rfl rfl (by decide) (by decide) (by decide) 0 rfl rfl rfl jw_535 jw_536 jw_537 jw_146 jw_534 jn_X1_payAfterRate rfl (jj_le rfl) (jj_le rfl) (jj_le rfl) (jj_le rfl) (jj_le rfl) dX10_firstRateInReach_59 rfl (fun _ _ hX => hX.elim) (fun w1 r O_75 => ?_)
    obtain ⟨rfl, rfl⟩ := O_75
    refine jj_apd rfl ?_
    refine jj_lload C dX10_firstRateInReach_62 rfl ?_
    refine jj_ladd (v := 0) C dX10_firstRateInReach_64 (by decide) ?_
    refine jj_lload_n C dX10_firstRateInReach_65 rfl ?_
    refine jj_lcmp_geF (tgt := 79) C dX10_firstRateInReach_66 dX10_firstRateInReach_67 (by decide) c_7 ?_
    refine jj_iload C dX10_firstRateInReach_70 rfl ?_
    refine jj_iconst (v := 1) C dX10_firstRateInReach_72 (by decide) ?_
    refine jj_iadd (v := 8814) C dX10_firstRateInReach_73 (by decide) ?_
    refine jj_istore C dX10_firstRateInReach_74 (by decide) rfl ?_
    refine jj_goto (tgt := 83) C dX10_firstRateInReach_76 (by decide) ?_
    refine jj_iinc (v := 4) C dX10_firstRateInReach_83 rfl (by decide) (by decide) rfl ?_
    refine jj_goto (tgt := 23) C dX10_firstRateInReach_86 (by decide) ?_
    refine jj_iload C dX10_firstRateInReach_23 rfl ?_
    refine jj_bipush (v := 32) C dX10_firstRateInReach_25 (by decide) ?_
    refine jj_icmp_geF (tgt := 89) C dX10_firstRateInReach_27 (by decide) (by decide) ?_
    refine jj_iload C dX10_firstRateInReach_30 rfl ?_
    refine jj_iload C dX10_firstRateInReach_32 rfl ?_
    refine jj_icmp_geF (tgt := 89) C dX10_firstRateInReach_34 (by decide) (by decide) ?_
    refine jj_iload C dX10_firstRateInReach_37 rfl ?_
    refine jj_iload C dX10_firstRateInReach_39 rfl ?_
    refine jj_iadd (v := 18814) C dX10_firstRateInReach_41 (by decide) ?_
    refine jj_iconst (v := 2) C dX10_firstRateInReach_42 (by decide) ?_
    refine jq_callS (rest := []) C (ct_J9_floorDiv_7cf53_19 hl D cA ak) [] [0, 1, 2] rfl rfl (by decide) (by decide) (by decide) jw_592 jw_593 jw_286 jw_591 jn_J9_floorDiv_7cf53 rfl (jj_le rfl) (jj_le rfl) (jj_le rfl) (jj_le rfl) (jj_le rfl) dX10_firstRateInReach_43 rfl (fun _ _ hX => hX.elim) (fun w1 r O_77 => ?_)
    obtain ⟨rfl, rfl⟩ := O_77
    refine jj_apd rfl ?_
    refine jj_istore C dX10_firstRateInReach_46 (by decide) rfl ?_
    refine jj_aload_n C dX10_firstRateInReach_48 rfl ?_
    refine jj_get C jk_11 5 (by decide) jw_159 0 rfl rfl dX10_firstRateInReach_49 ?_
    refine jj_aload_n C dX10_firstRateInReach_52 rfl ?_
    refine jj_get C jk_11 3 (by decide) jw_135 0 rfl rfl dX10_firstRateInReach_53 ?_
    refine jj_iload_n C dX10_firstRateInReach_56 rfl ?_
    refine jj_iload C dX10_firstRateInReach_57 rfl ?_
    refine jq_callV (rest := []) C (ct_X1_payAfterRate_1 hl D cA ak h2 h1 h11 h7 h8 h9 h10 a0 9407) [1, 2] [0] rfl rfl (by decide) (by decide) (by decide) 0 rfl rfl rfl jw_535 jw_536 jw_537 jw_146 jw_534 jn_X1_payAfterRate rfl (jj_le rfl) (jj_le rfl) (jj_le rfl) (jj_le rfl) (jj_le rfl) dX10_firstRateInReach_59 rfl (fun _ _ hX => hX.elim) (fun w1 r O_79 => ?_)
    obtain ⟨rfl, rfl⟩ := O_79
    refine jj_apd rfl ?_
    refine jj_lload C dX10_firstRateInReach_62 rfl ?_
    refine jj_ladd (v := 0) C dX10_firstRateInReach_64 (by decide) ?_
    refine jj_lload_n C dX10_firstRateInReach_65 rfl ?_
    refine jj_lcmp_geF (tgt := 79) C dX10_firstRateInReach_66 dX10_firstRateInReach_67 (by decide) c_7 ?_
    refine jj_iload C dX10_firstRateInReach_70 rfl ?_
    refine jj_iconst (v := 1) C dX10_firstRateInReach_72 (by decide) ?_
    refine jj_iadd (v := 9408) C dX10_firstRateInReach_73 (by decide) ?_
    refine jj_istore C dX10_firstRateInReach_74 (by decide) rfl ?_
    refine jj_goto (tgt := 83) C dX10_firstRateInReach_76 (by decide) ?_
    refine jj_iinc (v := 5) C dX10_firstRateInReach_83 rfl (by decide) (by decide) rfl ?_
    refine jj_goto (tgt := 23) C dX10_firstRateInReach_86 (by decide) ?_
    refine jj_iload C dX10_firstRateInReach_23 rfl ?_
    refine jj_bipush (v := 32) C dX10_firstRateInReach_25 (by decide) ?_
    refine jj_icmp_geF (tgt := 89) C dX10_firstRateInReach_27 (by decide) (by decide) ?_
    refine jj_iload C dX10_firstRateInReach_30 rfl ?_
    refine jj_iload C dX10_firstRateInReach_32 rfl ?_
    refine jj_icmp_geF (tgt := 89) C dX10_firstRateInReach_34 (by decide) (by decide) ?_
    refine jj_iload C dX10_firstRateInReach_37 rfl ?_
    refine jj_iload C dX10_firstRateInReach_39 rfl ?_
    refine jj_iadd (v := 19408) C dX10_firstRateInReach_41 (by decide) ?_
    refine jj_iconst (v := 2) C dX10_firstRateInReach_42 (by decide) ?_
    refine jq_callS (rest := []) C (ct_J9_floorDiv_7cf53_20 hl D cA ak) [] [0, 1, 2] rfl rfl (by decide) (by decide) (by decide) jw_592 jw_593 jw_286 jw_591 jn_J9_floorDiv_7cf53 rfl (jj_le rfl) (jj_le rfl) (jj_le rfl) (jj_le rfl) (jj_le rfl) dX10_firstRateInReach_43 rfl (fun _ _ hX => hX.elim) (fun w1 r O_81 => ?_)
    obtain ⟨rfl, rfl⟩ := O_81
    refine jj_apd rfl ?_
    refine jj_istore C dX10_firstRateInReach_46 (by decide) rfl ?_
    refine jj_aload_n C dX10_firstRateInReach_48 rfl ?_
    refine jj_get C jk_11 5 (by decide) jw_159 0 rfl rfl dX10_firstRateInReach_49 ?_
    refine jj_aload_n C dX10_firstRateInReach_52 rfl ?_
    refine jj_get C jk_11 3 (by decide) jw_135 0 rfl rfl dX10_firstRateInReach_53 ?_
    refine jj_iload_n C dX10_firstRateInReach_56 rfl ?_
    refine jj_iload C dX10_firstRateInReach_57 rfl ?_
    refine jq_callV (rest := []) C (ct_X1_payAfterRate_1 hl D cA ak h2 h1 h11 h7 h8 h9 h10 a0 9704) [1, 2] [0] rfl rfl (by decide) (by decide) (by decide) 0 rfl rfl rfl jw_535 jw_536 jw_537 jw_146 jw_534 jn_X1_payAfterRate rfl (jj_le rfl) (jj_le rfl) (jj_le rfl) (jj_le rfl) (jj_le rfl) dX10_firstRateInReach_59 rfl (fun _ _ hX => hX.elim) (fun w1 r O_83 => ?_)
    obtain ⟨rfl, rfl⟩ := O_83
    refine jj_apd rfl ?_
    refine jj_lload C dX10_firstRateInReach_62 rfl ?_
    refine jj_ladd (v := 0) C dX10_firstRateInReach_64 (by decide) ?_
    refine jj_lload_n C dX10_firstRateInReach_65 rfl ?_
    refine jj_lcmp_geF (tgt := 79) C dX10_firstRateInReach_66 dX10_firstRateInReach_67 (by decide) c_7 ?_
    refine jj_iload C dX10_firstRateInReach_70 rfl ?_
    refine jj_iconst (v := 1) C dX10_firstRateInReach_72 (by decide) ?_
    refine jj_iadd (v := 9705) C dX10_firstRateInReach_73 (by decide) ?_
    refine jj_istore C dX10_firstRateInReach_74 (by decide) rfl ?_
    refine jj_goto (tgt := 83) C dX10_firstRateInReach_76 (by decide) ?_
    refine jj_iinc (v := 6) C dX10_firstRateInReach_83 rfl (by decide) (by decide) rfl ?_
    refine jj_goto (tgt := 23) C dX10_firstRateInReach_86 (by decide) ?_
    refine jj_iload C dX10_firstRateInReach_23 rfl ?_
    refine jj_bipush (v := 32) C dX10_firstRateInReach_25 (by decide) ?_
    refine jj_icmp_geF (tgt := 89) C dX10_firstRateInReach_27 (by decide) (by decide) ?_
    refine jj_iload C dX10_firstRateInReach_30 rfl ?_
    refine jj_iload C dX10_firstRateInReach_32 rfl ?_
    refine jj_icmp_geF (tgt := 89) C dX10_firstRateInReach_34 (by decide) (by decide) ?_
    refine jj_iload C dX10_firstRateInReach_37 rfl ?_
    refine jj_iload C dX10_firstRateInReach_39 rfl ?_
    refine jj_iadd (v := 19705) C dX10_firstRateInReach_41 (by decide) ?_
    refine jj_iconst (v := 2) C dX10_firstRateInReach_42 (by decide) ?_
    refine jq_callS (rest := []) C (ct_J9_floorDiv_7cf53_21 hl D cA ak) [] [0, 1, 2] rfl rfl (by decide) (by decide) (by decide) jw_592 jw_593 jw_286 jw_591 jn_J9_floorDiv_7cf53 rfl (jj_le rfl) (jj_le rfl) (jj_le rfl) (jj_le rfl) (jj_le rfl) dX10_firstRateInReach_43 rfl (fun _ _ hX => hX.elim) (fun w1 r O_85 => ?_)
    obtain ⟨rfl, rfl⟩ := O_85
    refine jj_apd rfl ?_
    refine jj_istore C dX10_firstRateInReach_46 (by decide) rfl ?_
    refine jj_aload_n C dX10_firstRateInReach_48 rfl ?_
    refine jj_get C jk_11 5 (by decide) jw_159 0 rfl rfl dX10_firstRateInReach_49 ?_
    refine jj_aload_n C dX10_firstRateInReach_52 rfl ?_
    refine jj_get C jk_11 3 (by decide) jw_135 0 rfl rfl dX10_firstRateInReach_53 ?_
    refine jj_iload_n C dX10_firstRateInReach_56 rfl ?_
    refine jj_iload C dX10_firstRateInReach_57 rfl ?_
    refine jq_callV (rest := []) C (ct_X1_payAfterRate_1 hl D cA ak h2 h1 h11 h7 h8 h9 h10 a0 9852) [1, 2] [0] rfl rfl (by decide) (by decide) (by decide) 0 rfl rfl rfl jw_535 jw_536 jw_537 jw_146 jw_534 jn_X1_payAfterRate rfl (jj_le rfl) (jj_le rfl) (jj_le rfl) (jj_le rfl) (jj_le rfl) dX10_firstRateInReach_59 rfl (fun _ _ hX => hX.elim) (fun w1 r O_87 => ?_)
    obtain ⟨rfl, rfl⟩ := O_87
    refine jj_apd rfl ?_
    refine jj_lload C dX10_firstRateInReach_62 rfl ?_
    refine jj_ladd (v := 0) C dX10_firstRateInReach_64 (by decide) ?_
    refine jj_lload_n C dX10_firstRateInReach_65 rfl ?_
    refine jj_lcmp_geF (tgt := 79) C dX10_firstRateInReach_66 dX10_firstRateInReach_67 (by decide) c_7 ?_
    refine jj_iload C dX10_firstRateInReach_70 rfl ?_
    refine jj_iconst (v := 1) C dX10_firstRateInReach_72 (by decide) ?_
    refine jj_iadd (v := 9853) C dX10_firstRateInReach_73 (by decide) ?_
    refine jj_istore C dX10_firstRateInReach_74 (by decide) rfl ?_
    refine jj_goto (tgt := 83) C dX10_firstRateInReach_76 (by decide) ?_
    refine jj_iinc (v := 7) C dX10_firstRateInReach_83 rfl (by decide) (by decide) rfl ?_
    refine jj_goto (tgt := 23) C dX10_firstRateInReach_86 (by decide) ?_
    refine jj_iload C dX10_firstRateInReach_23 rfl ?_
    refine jj_bipush (v := 32) C dX10_firstRateInReach_25 (by decide) ?_
    refine jj_icmp_geF (tgt := 89) C dX10_firstRateInReach_27 (by decide) (by decide) ?_
    refine jj_iload C dX10_firstRateInReach_30 rfl ?_
    refine jj_iload C dX10_firstRateInReach_32 rfl ?_
    refine jj_icmp_geF (tgt := 89) C dX10_firstRateInReach_34 (by decide) (by decide) ?_
    refine jj_iload C dX10_firstRateInReach_37 rfl ?_
    refine jj_iload C dX10_firstRateInReach_39 rfl ?_
    refine jj_iadd (v := 19853) C dX10_firstRateInReach_41 (by decide) ?_
    refine jj_iconst (v := 2) C dX10_firstRateInReach_42 (by decide) ?_
    refine jq_callS (rest := []) C (ct_J9_floorDiv_7cf53_22 hl D cA ak) [] [0, 1, 2] rfl rfl (by decide) (by decide) (by decide) jw_592 jw_593 jw_286 jw_591 jn_J9_floorDiv_7cf53 rfl (jj_le rfl) (jj_le rfl) (jj_le rfl) (jj_le rfl) (jj_le rfl) dX10_firstRateInReach_43 rfl (fun _ _ hX => hX.elim) (fun w1 r O_89 => ?_)
    obtain ⟨rfl, rfl⟩ := O_89
    refine jj_apd rfl ?_
    refine jj_istore C dX10_firstRateInReach_46 (by decide) rfl ?_
    refine jj_aload_n C dX10_firstRateInReach_48 rfl ?_
    refine jj_get C jk_11 5 (by decide) jw_159 0 rfl rfl dX10_firstRateInReach_49 ?_
    refine jj_aload_n C dX10_firstRateInReach_52 rfl ?_
    refine jj_get C jk_11 3 (by decide) jw_135 0 rfl rfl dX10_firstRateInReach_53 ?_
    refine jj_iload_n C dX10_firstRateInReach_56 rfl ?_
    refine jj_iload C dX10_firstRateInReach_57 rfl ?_
    refine jq_callV (rest := []) C (ct_X1_payAfterRate_1 hl D cA ak h2 h1 h11 h7 h8 h9 h10 a0 9926) [1, 2] [0] rfl rfl (by decide) (by decide) (by decide) 0 rfl rfl rfl jw_535 jw_536 jw_537 jw_146 jw_534 jn_X1_payAfterRate rfl (jj_le rfl) (jj_le rfl) (jj_le rfl) (jj_le rfl) (jj_le rfl) dX10_firstRateInReach_59 rfl (fun _ _ hX => hX.elim) (fun w1 r O_91 => ?_)
    obtain ⟨rfl, rfl⟩ := O_91
    refine jj_apd rfl ?_
    refine jj_lload C dX10_firstRateInReach_62 rfl ?_
    refine jj_ladd (v := 0) C dX10_firstRateInReach_64 (by decide) ?_
    refine jj_lload_n C dX10_firstRateInReach_65 rfl ?_
    refine jj_lcmp_geF (tgt := 79) C dX10_firstRateInReach_66 dX10_firstRateInReach_67 (by decide) c_7 ?_
    refine jj_iload C dX10_firstRateInReach_70 rfl ?_
    refine jj_iconst (v := 1) C dX10_firstRateInReach_72 (by decide) ?_
    refine jj_iadd (v := 9927) C dX10_firstRateInReach_73 (by decide) ?_
    refine jj_istore C dX10_firstRateInReach_74 (by decide) rfl ?_
    refine jj_goto (tgt := 83) C dX10_firstRateInReach_76 (by decide) ?_
    refine jj_iinc (v := 8) C dX10_firstRateInReach_83 rfl (by decide) (by decide) rfl ?_
    refine jj_goto (tgt := 23) C dX10_firstRateInReach_86 (by decide) ?_
    refine jj_iload C dX10_firstRateInReach_23 rfl ?_
    refine jj_bipush (v := 32) C dX10_firstRateInReach_25 (by decide) ?_
    refine jj_icmp_geF (tgt := 89) C dX10_firstRateInReach_27 (by decide) (by decide) ?_
    refine jj_iload C dX10_firstRateInReach_30 rfl ?_
    refine jj_iload C dX10_firstRateInReach_32 rfl ?_
    refine jj_icmp_geF (tgt := 89) C dX10_firstRateInReach_34 (by decide) (by decide) ?_
    refine jj_iload C dX10_firstRateInReach_37 rfl ?_
    refine jj_iload C dX10_firstRateInReach_39 rfl ?_
    refine jj_iadd (v := 19927) C dX10_firstRateInReach_41 (by decide) ?_
    refine jj_iconst (v := 2) C dX10_firstRateInReach_42 (by decide) ?_
    refine jq_callS (rest := []) C (ct_J9_floorDiv_7cf53_23 hl D cA ak) [] [0, 1, 2] rfl rfl (by decide) (by decide) (by decide) jw_592 jw_593 jw_286 jw_591 jn_J9_floorDiv_7cf53 rfl (jj_le rfl) (jj_le rfl) (jj_le rfl) (jj_le rfl) (jj_le rfl) dX10_firstRateInReach_43 rfl (fun _ _ hX => hX.elim) (fun w1 r O_93 => ?_)
    obtain ⟨rfl, rfl⟩ := O_93
    refine jj_apd rfl ?_
    refine jj_istore C dX10_firstRateInReach_46 (by decide) rfl ?_
    refine jj_aload_n C dX10_firstRateInReach_48 rfl ?_
    refine jj_get C jk_11 5 (by decide) jw_159 0 rfl rfl dX10_firstRateInReach_49 ?_
    refine jj_aload_n C dX10_firstRateInReach_52 rfl ?_
    refine jj_get C jk_11 3 (by decide) jw_135 0 rfl rfl dX10_firstRateInReach_53 ?_
    refine jj_iload_n C dX10_firstRateInReach_56 rfl ?_
    refine jj_iload C dX10_firstRateInReach_57 rfl ?_
    refine jq_callV (rest := []) C (ct_X1_payAfterRate_1 hl D cA ak h2 h1 h11 h7 h8 h9 h10 a0 9963) [1, 2] [0] rfl rfl (by decide) (by decide) (by decide) 0 rfl rfl rfl jw_535 jw_536 jw_537 jw_146 jw_534 jn_X1_payAfterRate rfl (jj_le rfl) (jj_le rfl) (jj_le rfl) (jj_le rfl) (jj_le rfl) dX10_firstRateInReach_59 rfl (fun _ _ hX => hX.elim) (fun w1 r O_95 => ?_)
    obtain ⟨rfl, rfl⟩ := O_95
    refine jj_apd rfl ?_
    refine jj_lload C dX10_firstRateInReach_62 rfl ?_
    refine jj_ladd (v := 0) C dX10_firstRateInReach_64 (by decide) ?_
    refine jj_lload_n C dX10_firstRateInReach_65 rfl ?_
    refine jj_lcmp_geF (tgt := 79) C dX10_firstRateInReach_66 dX10_firstRateInReach_67 (by decide) c_7 ?_
    refine jj_iload C dX10_firstRateInReach_70 rfl ?_
    refine jj_iconst (v := 1) C dX10_firstRateInReach_72 (by decide) ?_
    refine jj_iadd (v := 9964) C dX10_firstRateInReach_73 (by decide) ?_
    refine jj_istore C dX10_firstRateInReach_74 (by decide) rfl ?_
    refine jj_goto (tgt := 83) C dX10_firstRateInReach_76 (by decide) ?_
    refine jj_iinc (v := 9) C dX10_firstRateInReach_83 rfl (by decide) (by decide) rfl ?_
    refine jj_goto (tgt := 23) C dX10_firstRateInReach_86 (by decide) ?_
    refine jj_iload C dX10_firstRateInReach_23 rfl ?_
    refine jj_bipush (v := 32) C dX10_firstRateInReach_25 (by decide) ?_
    refine jj_icmp_geF (tgt := 89) C dX10_firstRateInReach_27 (by decide) (by decide) ?_
    refine jj_iload C dX10_firstRateInReach_30 rfl ?_
    refine jj_iload C dX10_firstRateInReach_32 rfl ?_
    refine jj_icmp_geF (tgt := 89) C dX10_firstRateInReach_34 (by decide) (by decide) ?_
    refine jj_iload C dX10_firstRateInReach_37 rfl ?_
    refine jj_iload C dX10_firstRateInReach_39 rfl ?_
    refine jj_iadd (v := 19964) C dX10_firstRateInReach_41 (by decide) ?_
    refine jj_iconst (v := 2) C dX10_firstRateInReach_42 (by decide) ?_
    refine jq_callS (rest := []) C (ct_J9_floorDiv_7cf53_24 hl D cA ak) [] [0, 1, 2] rfl rfl (by decide) (by decide) (by decide) jw_592 jw_593 jw_286 jw_591 jn_J9_floorDiv_7cf53 rfl (jj_le rfl) (jj_le rfl) (jj_le rfl) (jj_le rfl) (jj_le rfl) dX10_firstRateInReach_43 rfl (fun _ _ hX => hX.elim) (fun w1 r O_97 => ?_)
    obtain ⟨rfl, rfl⟩ := O_97
    refine jj_apd rfl ?_
    refine jj_istore C dX10_firstRateInReach_46 (by decide) rfl ?_
    refine jj_aload_n C dX10_firstRateInReach_48 rfl ?_
    refine jj_get C jk_11 5 (by decide) jw_159 0 rfl rfl dX10_firstRateInReach_49 ?_
    refine jj_aload_n C dX10_firstRateInReach_52 rfl ?_
    refine jj_get C jk_11 3 (by decide) jw_135 0 rfl rfl dX10_firstRateInReach_53 ?_
    refine jj_iload_n C dX10_firstRateInReach_56 rfl ?_
    refine jj_iload C dX10_firstRateInReach_57 rfl ?_
    refine jq_callV (rest := []) C (ct_X1_payAfterRate_1 hl D cA ak h2 h1 h11 h7 h8 h9 h10 a0 9982) [1, 2] [0] rfl rfl (by decide) (by decide) (by decide) 0 rfl rfl rfl jw_535 jw_536 jw_537 jw_146 jw_534 jn_X1_payAfterRate rfl (jj_le rfl) (jj_le rfl) (jj_le rfl) (jj_le rfl) (jj_le rfl) dX10_firstRateInReach_59 rfl (fun _ _ hX => hX.elim) (fun w1 r O_99 => ?_)
    obtain ⟨rfl, rfl⟩ := O_99
    refine jj_apd rfl ?_
    refine jj_lload C dX10_firstRateInReach_62 rfl ?_
    refine jj_ladd (v := 0) C dX10_firstRateInReach_64 (by decide) ?_
    refine jj_lload_n C dX10_firstRateInReach_65 rfl ?_
    refine jj_lcmp_geF (tgt := 79) C dX10_firstRateInReach_66 dX10_firstRateInReach_67 (by decide) c_7 ?_
    refine jj_iload C dX10_firstRateInReach_70 rfl ?_
    refine jj_iconst (v := 1) C dX10_firstRateInReach_72 (by decide) ?_
    refine jj_iadd (v := 9983) C dX10_firstRateInReach_73 (by decide) ?_
    refine jj_istore C dX10_firstRateInReach_74 (by decide) rfl ?_
    refine jj_goto (tgt := 83) C dX10_firstRateInReach_76 (by decide) ?_
    refine jj_iinc (v := 10) C dX10_firstRateInReach_83 rfl (by decide) (by decide) rfl ?_
    refine jj_goto (tgt := 23) C dX10_firstRateInReach_86 (by decide) ?_
    refine jj_iload C dX10_firstRateInReach_23 rfl ?_
    refine jj_bipush (v := 32) C dX10_firstRateInReach_25 (by decide) ?_
    refine jj_icmp_geF (tgt := 89) C dX10_firstRateInReach_27 (by decide) (by decide) ?_
    refine jj_iload C dX10_firstRateInReach_30 rfl ?_
    refine jj_iload C dX10_firstRateInReach_32 rfl ?_
    refine jj_icmp_geF (tgt := 89) C dX10_firstRateInReach_34 (by decide) (by decide) ?_
    refine jj_iload C dX10_firstRateInReach_37 rfl ?_
    refine jj_iload C dX10_firstRateInReach_39 rfl ?_
    refine jj_iadd (v := 19983) C dX10_firstRateInReach_41 (by decide) ?_
    refine jj_iconst (v := 2) C dX10_firstRateInReach_42 (by decide) ?_
    refine jq_callS (rest := []) C (ct_J9_floorDiv_7cf53_25 hl D cA ak) [] [0, 1, 2] rfl rfl (by decide) (by decide) (by decide) jw_592 jw_593 jw_286 jw_591 jn_J9_floorDiv_7cf53 rfl (jj_le rfl) (jj_le rfl) (jj_le rfl) (jj_le rfl) (jj_le rfl) dX10_firstRateInReach_43 rfl (fun _ _ hX => hX.elim) (fun w1 r O_101 => ?_)
    obtain ⟨rfl, rfl⟩ := O_101
    refine jj_apd rfl ?_
    refine jj_istore C dX10_firstRateInReach_46 (by decide) rfl ?_
    refine jj_aload_n C dX10_firstRateInReach_48 rfl ?_
    refine jj_get C jk_11 5 (by decide) jw_159 0 rfl rfl dX10_firstRateInReach_49 ?_
    refine jj_aload_n C dX10_firstRateInReach_52 rfl ?_
    refine jj_get C jk_11 3 (by decide) jw_135 0 rfl rfl dX10_firstRateInReach_53 ?_
    refine jj_iload_n C dX10_firstRateInReach_56 rfl ?_
    refine jj_iload C dX10_firstRateInReach_57 rfl ?_
    refine jq_callV (rest := []) C (ct_X1_payAfterRate_1 hl D cA ak h2 h1 h11 h7 h8 h9 h10 a0 9991) [1, 2] [0] rfl rfl (by decide) (by decide) (by decide) 0 rfl rfl rfl jw_535 jw_536 jw_537 jw_146 jw_534 jn_X1_payAfterRate rfl (jj_le rfl) (jj_le rfl) (jj_le rfl) (jj_le rfl) (jj_le rfl) dX10_firstRateInReach_59 rfl (fun _ _ hX => hX.elim) (fun w1 r O_103 => ?_)
    obtain ⟨rfl, rfl⟩ := O_103
    refine jj_apd rfl ?_
    refine jj_lload C dX10_firstRateInReach_62 rfl ?_
    refine jj_ladd (v := 0) C dX10_firstRateInReach_64 (by decide) ?_
    refine jj_lload_n C dX10_firstRateInReach_65 rfl ?_
    refine jj_lcmp_geF (tgt := 79) C dX10_firstRateInReach_66 dX10_firstRateInReach_67 (by decide) c_7 ?_
    refine jj_iload C dX10_firstRateInReach_70 rfl ?_
    refine jj_iconst (v := 1) C dX10_firstRateInReach_72 (by decide) ?_
    refine jj_iadd (v := 9992) C dX10_firstRateInReach_73 (by decide) ?_
    refine jj_istore C dX10_firstRateInReach_74 (by decide) rfl ?_
    refine jj_goto (tgt := 83) C dX10_firstRateInReach_76 (by decide) ?_
    refine jj_iinc (v := 11) C dX10_firstRateInReach_83 rfl (by decide) (by decide) rfl ?_
    refine jj_goto (tgt := 23) C dX10_firstRateInReach_86 (by decide) ?_
    refine jj_iload C dX10_firstRateInReach_23 rfl ?_
    refine jj_bipush (v := 32) C dX10_firstRateInReach_25 (by decide) ?_
    refine jj_icmp_geF (tgt := 89) C dX10_firstRateInReach_27 (by decide) (by decide) ?_
    refine jj_iload C dX10_firstRateInReach_30 rfl ?_
    refine jj_iload C dX10_firstRateInReach_32 rfl ?_
    refine jj_icmp_geF (tgt := 89) C dX10_firstRateInReach_34 (by decide) (by decide) ?_
    refine jj_iload C dX10_firstRateInReach_37 rfl ?_
    refine jj_iload C dX10_firstRateInReach_39 rfl ?_
    refine jj_iadd (v := 19992) C dX10_firstRateInReach_41 (by decide) ?_
    refine jj_iconst (v := 2) C dX10_firstRateInReach_42 (by decide) ?_
    refine jq_callS (rest := []) C (ct_J9_floorDiv_7cf53_26 hl D cA ak) [] [0, 1, 2] rfl rfl (by decide) (by decide) (by decide) jw_592 jw_593 jw_286 jw_591 jn_J9_floorDiv_7cf53 rfl (jj_le rfl) (jj_le rfl) (jj_le rfl) (jj_le rfl) (jj_le rfl) dX10_firstRateInReach_43 rfl (fun _ _ hX => hX.elim) (fun w1 r O_105 => ?_)
    obtain ⟨rfl, rfl⟩ := O_105
    refine jj_apd rfl ?_
    refine jj_istore C dX10_firstRateInReach_46 (by decide) rfl ?_
    refine jj_aload_n C dX10_firstRateInReach_48 rfl ?_
    refine jj_get C jk_11 5 (by decide) jw_159 0 rfl rfl dX10_firstRateInReach_49 ?_
    refine jj_aload_n C dX10_firstRateInReach_52 rfl ?_
    refine jj_get C jk_11 3 (by decide) jw_135 0 rfl rfl dX10_firstRateInReach_53 ?_
    refine jj_iload_n C dX10_firstRateInReach_56 rfl ?_
    refine jj_iload C dX10_firstRateInReach_57 rfl ?_
    refine jq_callV (rest := []) C (ct_X1_payAfterRate_1 hl D cA ak h2 h1 h11 h7 h8 h9 h10 a0 9996) [1, 2] [0] rfl rfl (by decide) (by decide) (by decide) 0 rfl rfl rfl jw_535 jw_536 jw_537 jw_146 jw_534 jn_X1_payAfterRate rfl (jj_le rfl) (jj_le rfl) (jj_le rfl) (jj_le rfl) (jj_le rfl) dX10_firstRateInReach_59 rfl (fun _ _ hX => hX.elim) (fun w1 r O_107 => ?_)
    obtain ⟨rfl, rfl⟩ := O_107
    refine jj_apd rfl ?_
    refine jj_lload C dX10_firstRateInReach_62 rfl ?_
    refine jj_ladd (v := 0) C dX10_firstRateInReach_64 (by decide) ?_
    refine jj_lload_n C dX10_firstRateInReach_65 rfl ?_
    refine jj_lcmp_geF (tgt := 79) C dX10_firstRateInReach_66 dX10_firstRateInReach_67 (by decide) c_7 ?_
    refine jj_iload C dX10_firstRateInReach_70 rfl ?_
    refine jj_iconst (v := 1) C dX10_firstRateInReach_72 (by decide) ?_
    refine jj_iadd (v := 9997) C dX10_firstRateInReach_73 (by decide) ?_
    refine jj_istore C dX10_firstRateInReach_74 (by decide) rfl ?_
    refine jj_goto (tgt := 83) C dX10_firstRateInReach_76 (by decide) ?_
    refine jj_iinc (v := 12) C dX10_firstRateInReach_83 rfl (by decide) (by decide) rfl ?_
    refine jj_goto (tgt := 23) C dX10_firstRateInReach_86 (by decide) ?_
    refine jj_iload C dX10_firstRateInReach_23 rfl ?_
    refine jj_bipush (v := 32) C dX10_firstRateInReach_25 (by decide) ?_
    refine jj_icmp_geF (tgt := 89) C dX10_firstRateInReach_27 (by decide) (by decide) ?_
    refine jj_iload C dX10_firstRateInReach_30 rfl ?_
    refine jj_iload C dX10_firstRateInReach_32 rfl ?_
    refine jj_icmp_geF (tgt := 89) C dX10_firstRateInReach_34 (by decide) (by decide) ?_
    refine jj_iload C dX10_firstRateInReach_37 rfl ?_
    refine jj_iload C dX10_firstRateInReach_39 rfl ?_
    refine jj_iadd (v := 19997) C dX10_firstRateInReach_41 (by decide) ?_
    refine jj_iconst (v := 2) C dX10_firstRateInReach_42 (by decide) ?_
    refine jq_callS (rest := []) C (ct_J9_floorDiv_7cf53_27 hl D cA ak) [] [0, 1, 2] rfl rfl (by decide) (by decide) (by decide) jw_592 jw_593 jw_286 jw_591 jn_J9_floorDiv_7cf53 rfl (jj_le rfl) (jj_le rfl) (jj_le rfl) (jj_le rfl) (jj_le rfl) dX10_firstRateInReach_43 rfl (fun _ _ hX => hX.elim) (fun w1 r O_109 => ?_)
    obtain ⟨rfl, rfl⟩ := O_109
    refine jj_apd rfl ?_
    refine jj_istore C dX10_firstRateInReach_46 (by decide) rfl ?_
    refine jj_aload_n C dX10_firstRateInReach_48 rfl ?_
    refine jj_get C jk_11 5 (by decide) jw_159 0 rfl rfl dX10_firstRateInReach_49 ?_
    refine jj_aload_n C dX10_firstRateInReach_52 rfl ?_
    refine jj_get C jk_11 3 (by decide) jw_135 0 rfl rfl dX10_firstRateInReach_53 ?_
    refine jj_iload_n C dX10_firstRateInReach_56 rfl ?_
    refine jj_iload C dX10_firstRateInReach_57 rfl ?_
    refine jq_callV (rest := []) C (ct_X1_payAfterRate_1 hl D cA ak h2 h1 h11 h7 h8 h9 h10 a0 9998) [1, 2] [0] rfl rfl (by decide) (by decide) (by decide) 0 rfl rfl rfl jw_535 jw_536 jw_537 jw_146 jw_534 jn_X1_payAfterRate rfl (jj_le rfl) (jj_le rfl) (jj_le rfl) (jj_le rfl) (jj_le rfl) dX10_firstRateInReach_59 rfl (fun _ _ hX => hX.elim) (fun w1 r O_111 => ?_)
    obtain ⟨rfl, rfl⟩ := O_111
    refine jj_apd rfl ?_
    refine jj_lload C dX10_firstRateInReach_62 rfl ?_
    refine jj_ladd (v := 0) C dX10_firstRateInReach_64 (by decide) ?_
    refine jj_lload_n C dX10_firstRateInReach_65 rfl ?_
    refine jj_lcmp_geF (tgt := 79) C dX10_firstRateInReach_66 dX10_firstRateInReach_67 (by decide) c_7 ?_
    refine jj_iload C dX10_firstRateInReach_70 rfl ?_
    refine jj_iconst (v := 1) C dX10_firstRateInReach_72 (by decide) ?_
    refine jj_iadd (v := 9999) C dX10_firstRateInReach_73 (by decide) ?_
    refine jj_istore C dX10_firstRateInReach_74 (by decide) rfl ?_
    refine jj_goto (tgt := 83) C dX10_firstRateInReach_76 (by decide) ?_
    refine jj_iinc (v := 13) C dX10_firstRateInReach_83 rfl (by decide) (by decide) rfl ?_
    refine jj_goto (tgt := 23) C dX10_firstRateInReach_86 (by decide) ?_
    refine jj_iload C dX10_firstRateInReach_23 rfl ?_
    refine jj_bipush (v := 32) C dX10_firstRateInReach_25 (by decide) ?_
    refine jj_icmp_geF (tgt := 89) C dX10_firstRateInReach_27 (by decide) (by decide) ?_
    refine jj_iload C dX10_firstRateInReach_30 rfl ?_
    refine jj_iload C dX10_firstRateInReach_32 rfl ?_
    refine jj_icmp_geF (tgt := 89) C dX10_firstRateInReach_34 (by decide) (by decide) ?_
    refine jj_iload C dX10_firstRateInReach_37 rfl ?_
    refine jj_iload C dX10_firstRateInReach_39 rfl ?_
    refine jj_iadd (v := 19999) C dX10_firstRateInReach_41 (by decide) ?_
    refine jj_iconst (v := 2) C dX10_firstRateInReach_42 (by decide) ?_
    refine jq_callS (rest := []) C (ct_J9_floorDiv_7cf53_28 hl D cA ak) [] [0, 1, 2] rfl rfl (by decide) (by decide) (by decide) jw_592 jw_593 jw_286 jw_591 jn_J9_floorDiv_7cf53 rfl (jj_le rfl) (jj_le rfl) (jj_le rfl) (jj_le rfl) (jj_le rfl) dX10_firstRateInReach_43 rfl (fun _ _ hX => hX.elim) (fun w1 r O_113 => ?_)
    obtain ⟨rfl, rfl⟩ := O_113
    refine jj_apd rfl ?_
    refine jj_istore C dX10_firstRateInReach_46 (by decide) rfl ?_
    refine jj_aload_n C dX10_firstRateInReach_48 rfl ?_
    refine jj_get C jk_11 5 (by decide) jw_159 0 rfl rfl dX10_firstRateInReach_49 ?_
    refine jj_aload_n C dX10_firstRateInReach_52 rfl ?_
    refine jj_get C jk_11 3 (by decide) jw_135 0 rfl rfl dX10_firstRateInReach_53 ?_
    refine jj_iload_n C dX10_firstRateInReach_56 rfl ?_
    refine jj_iload C dX10_firstRateInReach_57 rfl ?_
    refine jq_callV (rest := []) C (ct_X1_payAfterRate_1 hl D cA ak h2 h1 h11 h7 h8 h9 h10 a0 9999) [1, 2] [0] rfl rfl (by decide) (by decide) (by decide) 0 rfl rfl rfl jw_535 jw_536 jw_537 jw_146 jw_534 jn_X1_payAfterRate rfl (jj_le rfl) (jj_le rfl) (jj_le rfl) (jj_le rfl) (jj_le rfl) dX10_firstRateInReach_59 rfl (fun _ _ hX => hX.elim) (fun w1 r O_115 => ?_)
    obtain ⟨rfl, rfl⟩ := O_115
    refine jj_apd rfl ?_
    refine jj_lload C dX10_firstRateInReach_62 rfl ?_
    refine jj_ladd (v := 0) C dX10_firstRateInReach_64 (by decide) ?_
    refine jj_lload_n C dX10_firstRateInReach_65 rfl ?_
    refine jj_lcmp_geF (tgt := 79) C dX10_firstRateInReach_66 dX10_firstRateInReach_67 (by decide) c_7 ?_
    refine jj_iload C dX10_firstRateInReach_70 rfl ?_
    refine jj_iconst (v := 1) C dX10_firstRateInReach_72 (by decide) ?_
    refine jj_iadd (v := 10000) C dX10_firstRateInReach_73 (by decide) ?_
    refine jj_istore C dX10_firstRateInReach_74 (by decide) rfl ?_
    refine jj_goto (tgt := 83) C dX10_firstRateInReach_76 (by decide) ?_
    refine jj_iinc (v := 14) C dX10_firstRateInReach_83 rfl (by decide) (by decide) rfl ?_
    refine jj_goto (tgt := 23) C dX10_firstRateInReach_86 (by decide) ?_
    refine jj_iload C dX10_firstRateInReach_23 rfl ?_
    refine jj_bipush (v := 32) C dX10_firstRateInReach_25 (by decide) ?_
    refine jj_icmp_geF (tgt := 89) C dX10_firstRateInReach_27 (by decide) (by decide) ?_
    refine jj_iload C dX10_firstRateInReach_30 rfl ?_
    refine jj_iload C dX10_firstRateInReach_32 rfl ?_
    refine jj_icmp_geT (tgt := 89) C dX10_firstRateInReach_34 (by decide) (by decide) ?_
    refine jj_iload C dX10_firstRateInReach_89 rfl ?_
    exact jj_iret C (Or.inr ⟨c_7, rfl, rfl⟩) dX10_firstRateInReach_91 (jj_le rfl) (jj_le rfl)


