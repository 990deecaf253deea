set_option maxHeartbeats 4000000 in
set_option maxRecDepth 100000 in
theorem ct_X11_isNoRequest_1 {l : Launch} (hl : l.stackTraces = false) (D : va_G) (cA : Nat → ClassId) (ak : (Nat → Nat) × (Nat → Nat)) (h0 h1 h2 h3 h4 h5 h6 h7 h8 h9 h10 h11 h12 : Nat) (a0 : Int32) : jj_M l D cA ak yX11_isNoRequest (.code yX11_isNoRequest cX11_isNoRequest 2 (some .boolean)) 1 25 0 0 [(h0, .inr (12, [.ref h1, .ref h2, .ref h3, .ref h4, .ref h5, .ref h6, .int 0, .int 0, .long 0, .long 0, .ref h7, .ref h8, .ref h9, .int 0, .int 0, .int 0, .int 0, .int 0, .int (-1), .int 0, .int 0, .ref h10, .ref h11, .ref h12, .int 0])), (h1, .inl (cA 2, 334, .inr (.inl (vp_updL (vp_updL (fun _ => 0) 0 1) 4 100))))] [.ref h0, .int a0] (fun (w : va_W) (r : Option Value) => (a0.toInt64 < 0 ∧ w = [(h1, .inl (cA 2, 334, .inr (.inl (vp_updL (vp_updL (fun _ => 0) 0 1) 4 100)))), (h0, .inr (12, [.ref h1, .ref h2, .ref h3, .ref h4, .ref h5, .ref h6, .int 0, .int 1, .long 0, .long 0, .ref h7, .ref h8, .ref h9, .int 0, .int 0, .int 0, .int 0, .int 0, .int (-1), .int 0, .int 0, .ref h10, .ref h11, .ref h12, .int 0]))] ∧ r = some (.int 1)) ∨ (¬ a0.toInt64 < 0 ∧ w = [(h1, .inl (cA 2, 334, .inr (.inl (vp_updL (vp_updL (fun _ => 0) 0 1) 4 100)))), (h0, .inr (12, [.ref h1, .ref h2, .ref h3, .ref h4, .ref h5, .ref h6, .int 0, .int 1, .long 0, .long 0, .ref h7, .ref h8, .ref h9, .int 0, .int 0, .int 0, .int 0, .int 0, .int (-1), .int 0, .int 0, .ref h10, .ref h11, .ref h12, .int 0]))] ∧ r = some (.int 1))) jj_noX := by
  refine jj_start hl (by decide) jw_398 (jj_le rfl) ?_
  intro p e s m args below meth c A hargs hA C hex hmn
  refine jj_aload_n C dX11_isNoRequest_0 rfl ?_
  refine jj_iload_n C dX11_isNoRequest_1 rfl ?_
  refine jj_i2l C dX11_isNoRequest_2 rfl ?_
  refine jj_lconst (v := 0) C dX11_isNoRequest_3 (by decide) ?_
  refine jj_aload_n C dX11_isNoRequest_4 rfl ?_
  refine jj_get C jk_12 0 (by decide) jw_181 0 rfl rfl dX11_isNoRequest_5 ?_
  refine jj_bipush (v := 8) C dX11_isNoRequest_8 (by decide) ?_
  refine jj_lald (v := 0) C 1 rfl (vp_in_iff.mpr (by decide)) rfl dX11_isNoRequest_10 ?_
  refine jj_lconst (v := 1) C dX11_isNoRequest_11 (by decide) ?_
  refine jj_lsub (v := (-1)) C dX11_isNoRequest_12 (by decide) ?_
  refine jq_callS (rest := [.ref h0]) C (ct_X11_in_4 hl D cA ak a0.toInt64) [] [0, 1] rfl rfl (by decide) (by decide) (by decide) jw_247 jw_248 jw_224 jw_246 jn_X11_in rfl (jj_le rfl) (jj_le rfl) (jj_le rfl) (jj_le rfl) (jj_le rfl) dX11_isNoRequest_13 rfl (fun _ _ hX => hX.elim) (fun w1 r O_2 => ?_)
  rcases O_2 with ⟨c_3, rfl, rfl⟩ | ⟨c_4, rfl, rfl⟩
  · refine jj_apd rfl ?_
    refine jj_if_neF (tgt := 23) C dX11_isNoRequest_16 (by decide) (by decide) ?_
    refine jj_iconst (v := 1) C dX11_isNoRequest_19 (by decide) ?_
    refine jj_goto (tgt := 24) C dX11_isNoRequest_20 (by decide) ?_
    refine jj_iconst (v := 1) C dX11_isNoRequest_24 (by decide) ?_
    refine jq_callV (rest := []) C (ct_X11_fails_1 hl D cA ak h0 h1 h2 h3 h4 h5 h6 h7 h8 h9 h10 h11 h12) [0] [1] rfl rfl (by decide) (by decide) (by decide) 0 rfl rfl rfl jw_306 jw_307 jw_308 jw_224 jw_305 jn_X11_fails rfl (jj_le rfl) (jj_le rfl) (jj_le rfl) (jj_le rfl) (jj_le rfl) dX11_isNoRequest_25 rfl (fun _ _ hX => hX.elim) (fun w1 r O_6 => ?_)
    obtain ⟨rfl, rfl⟩ := O_6
    refine jj_apd rfl ?_
    exact jj_zret C rfl (Or.inl ⟨c_3, rfl, rfl⟩) dX11_isNoRequest_28 (jj_le rfl) (jj_le rfl)
  · refine jj_apd rfl ?_
    refine jj_if_neF (tgt := 23) C dX11_isNoRequest_16 (by decide) (by decide) ?_
    refine jj_iconst (v := 1) C dX11_isNoRequest_19 (by decide) ?_
    refine jj_goto (tgt := 24) C dX11_isNoRequest_20 (by decide) ?_
    refine jj_iconst (v := 1) C dX11_isNoRequest_24 (by decide) ?_
    refine jq_callV (rest := []) C (ct_X11_fails_1 hl D cA ak h0 h1 h2 h3 h4 h5 h6 h7 h8 h9 h10 h11 h12) [0] [1] rfl rfl (by decide) (by decide) (by decide) 0 rfl rfl rfl jw_306 jw_307 jw_308 jw_224 jw_305 jn_X11_fails rfl (jj_le rfl) (jj_le rfl) (jj_le rfl) (jj_le rfl) (jj_le rfl) dX11_isNoRequest_25 rfl (fun _ _ hX => hX.elim) (fun w1 r O_8 => ?_)
    obtain ⟨rfl, rfl⟩ := O_8
    refine jj_apd rfl ?_
    exact jj_zret C rfl (Or.inr ⟨c_4, rfl, rfl⟩) dX11_isNoRequest_28 (jj_le rfl) (jj_le rfl)


set_option maxHeartbeats 4000000 in
set_option maxRecDepth 100000 in
theorem ct_X11_withdraw_1 {l : Launch} (hl : l.stackTraces = false) (D : va_G) (cA : Nat → ClassId) (ak : (Nat → Nat) × (Nat → Nat)) (h0 h1 h2 h3 h4 h5 h6 h7 h8 h9 h10 h11 h12 : Nat) (a0 : Int32) : jj_M l D cA ak yX11_withdraw (.code yX11_withdraw cX11_withdraw 4 (some .long)) 2 46 0 0 [(h0, .inr (12, [.ref h1, .ref h2, .ref h3, .ref h4, .ref h5, .ref h6, .int 0, .int 0, .long 0, .long 0, .ref h7, .ref h8, .ref h9, .int 0, .int 0, .int 0, .int 0, .int 0, .int (-1), .int 0, .int 0, .ref h10, .ref h11, .ref h12, .int 0])), (h1, .inl (cA 2, 334, .inr (.inl (vp_updL (vp_updL (fun _ => 0) 0 1) 4 100))))] [.ref h0, .int a0] (fun (w : va_W) (r : Option Value) => (a0.toInt64 < 0 ∧ w = [(h1, .inl (cA 2, 334, .inr (.inl (vp_updL (vp_updL (fun _ => 0) 0 1) 4 100)))), (h0, .inr (12, [.ref h1, .ref h2, .ref h3, .ref h4, .ref h5, .ref h6, .int 0, .int 1, .long 0, .long 0, .ref h7, .ref h8, .ref h9, .int 0, .int 0, .int 0, .int 0, .int 0, .int (-1), .int 0, .int 0, .ref h10, .ref h11, .ref h12, .int 0]))] ∧ r = some (.long 0)) ∨ (¬ a0.toInt64 < 0 ∧ w = [(h1, .inl (cA 2, 334, .inr (.inl (vp_updL (vp_updL (fun _ => 0) 0 1) 4 100)))), (h0, .inr (12, [.ref h1, .ref h2, .ref h3, .ref h4, .ref h5, .ref h6, .int 0, .int 1, .long 0, .long 0, .ref h7, .ref h8, .ref h9, .int 0, .int 0, .int 0, .int 0, .int 0, .int (-1), .int 0, .int 0, .ref h10, .ref h11, .ref h12, .int 0]))] ∧ r = some (.long 0))) jj_noX := by
  refine jj_start hl (by decide) jw_403 (jj_le rfl) ?_
  intro p e s m args below meth c A hargs hA C hex hmn
  refine jj_aload_n C dX11_withdraw_0 rfl ?_
  refine jj_iload_n C dX11_withdraw_1 rfl ?_
  refine jq_callV (rest := []) C (ct_X11_isNoRequest_1 hl D cA ak h0 h1 h2 h3 h4 h5 h6 h7 h8 h9 h10 h11 h12 a0) [0, 1] [] rfl rfl (by decide) (by decide) (by decide) 0 rfl rfl rfl jw_399 jw_400 jw_401 jw_224 jw_398 jn_X11_isNoRequest rfl (jj_le rfl) (jj_le rfl) (jj_le rfl) (jj_le rfl) (jj_le rfl) dX11_withdraw_2 rfl (fun _ _ hX => hX.elim) (fun w1 r O_2 => ?_)
  rcases O_2 with ⟨c_3, rfl, rfl⟩ | ⟨c_4, rfl, rfl⟩
  · refine jj_apd rfl ?_
    refine jj_if_eqF (tgt := 10) C dX11_withdraw_5 (by decide) (by decide) ?_
    refine jj_lconst (v := 0) C dX11_withdraw_8 (by decide) ?_
    exact jj_lret C (Or.inl ⟨c_3, rfl, rfl⟩) dX11_withdraw_9 (jj_le rfl) (jj_le rfl)
  · refine jj_apd rfl ?_
    refine jj_if_eqF (tgt := 10) C dX11_withdraw_5 (by decide) (by decide) ?_
    refine jj_lconst (v := 0) C dX11_withdraw_8 (by decide) ?_
    exact jj_lret C (Or.inr ⟨c_4, rfl, rfl⟩) dX11_withdraw_9 (jj_le rfl) (jj_le rfl)


set_option maxHeartbeats 4000000 in
set_option maxRecDepth 100000 in
theorem ct_X2_earningFault_1 {l : Launch} (hl : l.stackTraces = false) (D : va_G) (cA : Nat → ClassId) (ak : (Nat → Nat) × (Nat → Nat)) (h0 h1 h2 h3 h4 : Nat) (a0 : Int32) : jj_M l D cA ak yX2_earningFault (.code yX2_earningFault cX2_earningFault 5 (some .int)) 0 0 0 0 [(h0, .inr (2, [.int 1, .int 0, .int 0, .int 0, .int 100, .int 0, .int 0, .int 0, .int 0, .int 0, .ref h1, .ref h2, .ref h3, .ref h4]))] [.ref h0, .int a0] (fun (w : va_W) (r : Option Value) => (a0 < (-9000) ∧ w = [(h0, .inr (2, [.int 1, .int 0, .int 0, .int 0, .int 100, .int 0, .int 0, .int 0, .int 0, .int 0, .ref h1, .ref h2, .ref h3, .ref h4]))] ∧ r = some (.int 2)) ∨ (¬ a0 < (-9000) ∧ a0 ≤ 9999 ∧ w = [(h0, .inr (2, [.int 1, .int 0, .int 0, .int 0, .int 100, .int 0, .int 0, .int 0, .int 0, .int 0, .ref h1, .ref h2, .ref h3, .ref h4]))] ∧ r = some (.int 0)) ∨ (¬ a0 < (-9000) ∧ ¬ a0 ≤ 9999 ∧ w = [(h0, .inr (2, [.int 1, .int 0, .int 0, .int 0, .int 100, .int 0, .int 0, .int 0, .int 0, .int 0, .ref h1, .ref h2, .ref h3, .ref h4]))] ∧ r = some (.int 2))) jj_noX := by
  refine jj_start hl (by decide) jw_405 (jj_le rfl) ?_
  intro p e s m args below meth c A hargs hA C hex hmn
  refine jj_iload_n C dX2_earningFault_0 rfl ?_
  refine jj_sipush (v := (-9000)) C dX2_earningFault_1 (by decide) ?_
  refine jj_icmp_lt (tgt := 14) C dX2_earningFault_4 (by decide) (fun c_1 => ?_) (fun c_1 => ?_)
  · refine jj_iconst (v := 2) C dX2_earningFault_14 (by decide) ?_
    exact jj_iret C (Or.inl ⟨c_1, rfl, rfl⟩) dX2_earningFault_15 (jj_le rfl) (jj_le rfl)
  · refine jj_iload_n C dX2_earningFault_7 rfl ?_
    refine jj_sipush (v := 9999) C dX2_earningFault_8 (by decide) ?_
    refine jj_icmp_le (tgt := 16) C dX2_earningFault_11 (by decide) (fun c_2 => ?_) (fun c_2 => ?_)
    · refine jj_iconst (v := 0) C dX2_earningFault_16 (by decide) ?_
      refine jj_istore_n C dX2_earningFault_17 (by decide) rfl ?_
      refine jj_iload_n C dX2_earningFault_18 rfl ?_
      refine jj_aload_n C dX2_earningFault_19 rfl ?_
      refine jj_get C jk_2 7 (by decide) jw_404 0 rfl rfl dX2_earningFault_20 ?_
      refine jj_icmp_geT (tgt := 74) C dX2_earningFault_23 (by decide) (by decide) ?_
      refine jj_iconst (v := 0) C dX2_earningFault_74 (by decide) ?_
      exact jj_iret C (Or.inr (Or.inl ⟨c_1, c_2, rfl, rfl⟩)) dX2_earningFault_75 (jj_le rfl) (jj_le rfl)
    · refine jj_iconst (v := 2) C dX2_earningFault_14 (by decide) ?_
      exact jj_iret C (Or.inr (Or.inr ⟨c_1, c_2, rfl, rfl⟩)) dX2_earningFault_15 (jj_le rfl) (jj_le rfl)


set_option maxHeartbeats 4000000 in
set_option maxRecDepth 100000 in
theorem ct_X2_earnRate_1 {l : Launch} (hl : l.stackTraces = false) (D : va_G) (cA : Nat → ClassId) (ak : (Nat → Nat) × (Nat → Nat)) (h0 h1 h2 h3 h4 : Nat) (a0 : Int32) : jj_M l D cA ak yX2_earnRate (.code yX2_earnRate cX2_earnRate 7 (some .long)) 0 0 0 0 [(h0, .inr (2, [.int 1, .int 0, .int 0, .int 0, .int 100, .int 0, .int 0, .int 0, .int 0, .int 0, .ref h1, .ref h2, .ref h3, .ref h4])), (h1, .inl (cA 2, 6, .inr (.inl (fun _ => 0))))] [.ref h0, .int a0] (fun (w : va_W) (r : Option Value) => (w = [(h0, .inr (2, [.int 1, .int 0, .int 0, .int 0, .int 100, .int 0, .int 0, .int 0, .int 0, .int 0, .ref h1, .ref h2, .ref h3, .ref h4])), (h1, .inl (cA 2, 6, .inr (.inl (vp_updL (fun _ => 0) 4 0))))] ∧ r = some (.long 0))) jj_noX := by
  refine jj_start hl (by decide) jw_411 (jj_le rfl) ?_
  intro p e s m args below meth c A hargs hA C hex hmn
  refine jj_lconst (v := 0) C dX2_earnRate_0 (by decide) ?_
  refine jj_lstore_n C dX2_earnRate_1 (by decide) rfl ?_
  refine jj_iconst (v := 0) C dX2_earnRate_2 (by decide) ?_
  refine jj_istore C dX2_earnRate_3 (by decide) rfl ?_
  refine jj_iload C dX2_earnRate_5 rfl ?_
  refine jj_aload_n C dX2_earnRate_7 rfl ?_
  refine jj_get C jk_2 7 (by decide) jw_404 0 rfl rfl dX2_earnRate_8 ?_
  refine jj_icmp_geT (tgt := 61) C dX2_earnRate_11 (by decide) (by decide) ?_
  refine jj_aload_n C dX2_earnRate_61 rfl ?_
  refine jj_get C jk_2 10 (by decide) jw_410 0 rfl rfl dX2_earnRate_62 ?_
  refine jj_iconst (v := 4) C dX2_earnRate_65 (by decide) ?_
  refine jj_dup2 C dX2_earnRate_66 rfl rfl ?_
  refine jj_lald (v := 0) C 1 rfl (vp_in_iff.mpr (by decide)) rfl dX2_earnRate_67 ?_
  refine jj_lload_n C dX2_earnRate_68 rfl ?_
  refine jj_ladd (v := 0) C dX2_earnRate_69 (by decide) ?_
  refine jj_last C 1 rfl (vp_in_iff.mpr (by decide)) (g := (vp_updL (fun _ => 0) 4 0)) rfl rfl dX2_earnRate_70 ?_
  refine jj_lload_n C dX2_earnRate_71 rfl ?_
  exact jj_lret C ⟨rfl, rfl⟩ dX2_earnRate_72 (jj_le rfl) (jj_le rfl)


set_option maxHeartbeats 4000000 in
set_option maxRecDepth 100000 in
theorem ct_X10_earn_1 {l : Launch} (hl : l.stackTraces = false) (D : va_G) (cA : Nat → ClassId) (ak : (Nat → Nat) × (Nat → Nat)) (h0 h1 h2 h3 h4 h5 h6 h7 h8 h9 h10 : Nat) (a0 : Int32) : jj_M l D cA ak yX10_earn (.code yX10_earn cX10_earn 2 (some .long)) 7 102 63 408 [(h0, .inr (11, [.ref h4, .int 0, .int (-1), .ref h1, .ref h5, .ref h6, .ref h2, .int 0, .int 0, .ref h7])), (h1, .inr (2, [.int 1, .int 0, .int 0, .int 0, .int 100, .int 0, .int 0, .int 0, .int 0, .int 0, .ref h3, .ref h8, .ref h9, .ref h10])), (h2, .inl (cA 5, 10, .inr (.inr (.inr (.inr (fun _ => none)))))), (h3, .inl (cA 2, 6, .inr (.inl (fun _ => 0))))] [.ref h0, .int a0] (fun (w : va_W) (r : Option Value) => (¬ a0 < (-9000) ∧ a0 ≤ 9999 ∧ r = some (.long 0))) (fun (E : String) (w : va_W) => (E = "java/lang/IllegalArgumentException" ∧ a0 < (-9000)) ∨ (E = "java/lang/IllegalArgumentException" ∧ ¬ a0 < (-9000) ∧ ¬ a0 ≤ 9999)) := by
  refine jj_start hl (by decide) jw_415 (jj_le rfl) ?_
  intro p e s m args below meth c A hargs hA C hex hmn
  refine jj_aload_n C dX10_earn_0 rfl ?_
  refine jj_get C jk_11 3 (by decide) jw_135 0 rfl rfl dX10_earn_1 ?_
  refine jj_iload_n C dX10_earn_4 rfl ?_
  refine jq_callS (rest := []) C (ct_X2_earningFault_1 hl D cA ak h1 h3 h8 h9 h10 a0) [1] [0, 2, 3] rfl rfl (by decide) (by decide) (by decide) jw_406 jw_408 jw_407 jw_405 jn_X2_earningFault rfl (jj_le rfl) (jj_le rfl) (jj_le rfl) (jj_le rfl) (jj_le rfl) dX10_earn_5 rfl (fun _ _ hX => hX.elim) (fun w1 r O_2 => ?_)
  rcases O_2 with ⟨c_3, rfl, rfl⟩ | ⟨c_4, c_5, rfl, rfl⟩ | ⟨c_6, c_7, rfl, rfl⟩
  · refine jj_apd rfl ?_
    refine jq_callS (rest := []) C (ct_X10_refuse_2 hl D cA ak) [] [0, 1, 2, 3] rfl rfl (by decide) (by decide) (by decide) jw_270 jw_272 jw_271 jw_269 jn_X10_refuse rfl (jj_le rfl) (jj_le rfl) (jj_le rfl) (jj_le rfl) (jj_le rfl) dX10_earn_8 rfl (fun E w1 X_8 => ?_) (fun w1 r O_9 => ?_)
    · obtain rfl := X_8
      refine jj_leftY ?_
      exact jj_out C hex (Or.inl ⟨rfl, c_3⟩) (jj_le rfl) (jj_le rfl)
    · exact O_9.elim
  · refine jj_apd rfl ?_
    refine jq_callS (rest := []) C (ct_X10_refuse_3 hl D cA ak) [] [0, 1, 2, 3] rfl rfl (by decide) (by decide) (by decide) jw_270 jw_272 jw_271 jw_269 jn_X10_refuse rfl (jj_le rfl) (jj_le rfl) (jj_le rfl) (jj_le rfl) (jj_le rfl) dX10_earn_8 rfl (fun _ _ hX => hX.elim) (fun w1 r O_11 => ?_)
    obtain ⟨rfl, rfl⟩ := O_11
    refine jj_apd rfl ?_
    refine jj_aload_n C dX10_earn_11 rfl ?_
    refine jq_callV (rest := []) C (ct_X10_remember_1 hl D cA ak h0 h1 h2 h3 h4 h5 h6 h7 h8 h9 h10) [0, 3, 1, 2] [] rfl rfl (by decide) (by decide) (by decide) 0 rfl rfl rfl jw_280 jw_281 jw_282 jw_271 jw_279 jn_X10_remember rfl (jj_le rfl) (jj_le rfl) (jj_le rfl) (jj_le rfl) (jj_le rfl) dX10_earn_12 rfl (fun _ _ hX => hX.elim) (fun w1 r O_13 => ?_)
    obtain ⟨q_14, q_15, q_16, q_17, q_18, q_19, f_20, c_21, rfl, rfl⟩ := O_13
    refine jj_apd rfl ?_
    refine jj_aload_n C dX10_earn_15 rfl ?_
    refine jj_get C jk_11 3 (by decide) jw_135 0 rfl rfl dX10_earn_16 ?_
    refine jj_iload_n C dX10_earn_19 rfl ?_
    refine jq_callS (rest := []) C (ct_X2_earnRate_1 hl D cA ak h1 h3 h8 h9 h10 a0) [5, 7] [0, 1, 2, 3, 4, 6] rfl rfl (by decide) (by decide) (by decide) jw_412 jw_413 jw_407 jw_411 jn_X2_earnRate rfl (jj_le rfl) (jj_le rfl) (jj_le rfl) (jj_le rfl) (jj_le rfl) dX10_earn_20 rfl (fun _ _ hX => hX.elim) (fun w1 r O_23 => ?_)
    obtain ⟨rfl, rfl⟩ := O_23
    refine jj_apd rfl ?_
    exact jj_lret C ⟨c_4, c_5, rfl⟩ dX10_earn_23 (jj_le rfl) (jj_le rfl)
  · refine jj_apd rfl ?_
    refine jq_callS (rest := []) C (ct_X10_refuse_2 hl D cA ak) [] [0, 1, 2, 3] rfl rfl (by decide) (by decide) (by decide) jw_270 jw_272 jw_271 jw_269 jn_X10_refuse rfl (jj_le rfl) (jj_le rfl) (jj_le rfl) (jj_le rfl) (jj_le rfl) dX10_earn_8 rfl (fun E w1 X_24 => ?_) (fun w1 r O_25 => ?_)
    · obtain rfl := X_24
      refine jj_leftY ?_
      exact jj_out C hex (Or.inr ⟨rfl, c_6, c_7⟩) (jj_le rfl) (jj_le rfl)
    · exact O_25.elim


set_option maxHeartbeats 4000000 in
set_option maxRecDepth 100000 in
theorem ct_X11_in_5 {l : Launch} (hl : l.stackTraces = false) (D : va_G) (cA : Nat → ClassId) (ak : (Nat → Nat) × (Nat → Nat)) (b0 : Int64) : jj_M l D cA ak yX11_in (.code yX11_in cX11_in 6 (some .boolean)) 0 0 0 0 [] [.long b0, .long (-9000), .long 9999] (fun (w : va_W) (r : Option Value) => (b0 < (-9000) ∧ w = [] ∧ r = some (.int 0)) ∨ (¬ b0 < (-9000) ∧ 9999 < b0 ∧ w = [] ∧ r = some (.int 0)) ∨ (¬ b0 < (-9000) ∧ ¬ 9999 < b0 ∧ w = [] ∧ r = some (.int 1))) jj_noX := by
  refine jj_start hl (by decide) jw_246 (jj_le rfl) ?_
  intro p e s m args below meth c A hargs hA C hex hmn
  refine jj_lload_n C dX11_in_0 rfl ?_
  refine jj_lload_n C dX11_in_1 rfl ?_
  refine jj_lcmp_lt (tgt := 17) C dX11_in_2 dX11_in_3 (by decide) (fun c_1 => ?_) (fun c_1 => ?_)
  · refine jj_iconst (v := 0) C dX11_in_17 (by decide) ?_
    exact jj_zret C rfl (Or.inl ⟨c_1, rfl, rfl⟩) dX11_in_18 (jj_le rfl) (jj_le rfl)
  · refine jj_lload_n C dX11_in_6 rfl ?_
    refine jj_lload C dX11_in_7 rfl ?_
    refine jj_lcmp_gt (tgt := 17) C dX11_in_9 dX11_in_10 (by decide) (fun c_2 => ?_) (fun c_2 => ?_)
    · refine jj_iconst (v := 0) C dX11_in_17 (by decide) ?_
      exact jj_zret C rfl (Or.inr (Or.inl ⟨c_1, c_2, rfl, rfl⟩)) dX11_in_18 (jj_le rfl) (jj_le rfl)
    · refine jj_iconst (v := 1) C dX11_in_13 (by decide) ?_
      refine jj_goto (tgt := 18) C dX11_in_14 (by decide) ?_
      exact jj_zret C rfl (Or.inr (Or.inr ⟨c_1, c_2, rfl, rfl⟩)) dX11_in_18 (jj_le rfl) (jj_le rfl)


set_option maxHeartbeats 4000000 in
set_option maxRecDepth 100000 in
theorem ct_X11_isRate_1 {l : Launch} (hl : l.stackTraces = false) (D : va_G) (cA : Nat → ClassId) (ak : (Nat → Nat) × (Nat → Nat)) (a0 : Int32) : jj_M l D cA ak yX11_isRate (.code yX11_isRate cX11_isRate 1 (some .boolean)) 1 25 0 0 [] [.int a0] (fun (w : va_W) (r : Option Value) => (a0.toInt64 < (-9000) ∧ w = [] ∧ r = some (.int 0)) ∨ (¬ a0.toInt64 < (-9000) ∧ 9999 < a0.toInt64 ∧ w = [] ∧ r = some (.int 0)) ∨ (¬ a0.toInt64 < (-9000) ∧ ¬ 9999 < a0.toInt64 ∧ w = [] ∧ r = some (.int 1))) jj_noX := by
  refine jj_start hl (by decide) jw_418 (jj_le rfl) ?_
  intro p e s m args below meth c A hargs hA C hex hmn
  refine jj_iload_n C dX11_isRate_0 rfl ?_
  refine jj_i2l C dX11_isRate_1 rfl ?_
  refine jj_ldc2 (v := (-9000)) C dX11_isRate_2 jw_416 ?_
  refine jj_ldc2 (v := 9999) C dX11_isRate_5 jw_417 ?_
  refine jq_callS (rest := []) C (ct_X11_in_5 hl D cA ak a0.toInt64) [] [] rfl rfl (by decide) (by decide) (by decide) jw_247 jw_248 jw_224 jw_246 jn_X11_in rfl (jj_le rfl) (jj_le rfl) (jj_le rfl) (jj_le rfl) (jj_le rfl) dX11_isRate_8 rfl (fun _ _ hX => hX.elim) (fun w1 r O_2 => ?_)
  rcases O_2 with ⟨c_3, rfl, rfl⟩ | ⟨c_4, c_5, rfl, rfl⟩ | ⟨c_6, c_7, rfl, rfl⟩
  · refine jj_apd rfl ?_
    exact jj_zret C rfl (Or.inl ⟨c_3, rfl, rfl⟩) dX11_isRate_11 (jj_le rfl) (jj_le rfl)
  · refine jj_apd rfl ?_
    exact jj_zret C rfl (Or.inr (Or.inl ⟨c_4, c_5, rfl, rfl⟩)) dX11_isRate_11 (jj_le rfl) (jj_le rfl)
  · refine jj_apd rfl ?_
    exact jj_zret C rfl (Or.inr (Or.inr ⟨c_6, c_7, rfl, rfl⟩)) dX11_isRate_11 (jj_le rfl) (jj_le rfl)


set_option maxHeartbeats 4000000 in
set_option maxRecDepth 100000 in
theorem ct_X11_isTooMuch_1 {l : Launch} (hl : l.stackTraces = false) (D : va_G) (cA : Nat → ClassId) (ak : (Nat → Nat) × (Nat → Nat)) (h0 h1 h2 h3 h4 h5 h6 h7 h8 h9 h10 h11 h12 : Nat) (a0 : Int32) : jj_M l D cA ak yX11_isTooMuch (.code yX11_isTooMuch cX11_isTooMuch 6 (some .boolean)) 0 0 0 0 [(h0, .inr (12, [.ref h1, .ref h2, .ref h3, .ref h4, .ref h5, .ref h6, .int 0, .int 0, .long 0, .long 0, .ref h7, .ref h8, .ref h9, .int 0, .int 0, .int 0, .int 0, .int 0, .int (-1), .int 0, .int 0, .ref h10, .ref h11, .ref h12, .int 0])), (h1, .inl (cA 2, 334, .inr (.inl (vp_updL (vp_updL (fun _ => 0) 0 1) 4 100))))] [.ref h0, .int a0] (fun (w : va_W) (r : Option Value) => (w = [(h0, .inr (12, [.ref h1, .ref h2, .ref h3, .ref h4, .ref h5, .ref h6, .int 0, .int 0, .long 0, .long 0, .ref h7, .ref h8, .ref h9, .int 0, .int 0, .int 0, .int 0, .int 0, .int (-1), .int 0, .int 0, .ref h10, .ref h11, .ref h12, .int 0])), (h1, .inl (cA 2, 334, .inr (.inl (vp_updL (vp_updL (fun _ => 0) 0 1) 4 100))))] ∧ r = some (.int 0))) jj_noX := by
  refine jj_start hl (by decide) jw_422 (jj_le rfl) ?_
  intro p e s m args below meth c A hargs hA C hex hmn
  refine jj_iconst (v := 0) C dX11_isTooMuch_0 (by decide) ?_
  refine jj_istore_n C dX11_isTooMuch_1 (by decide) rfl ?_
  refine jj_iload_n C dX11_isTooMuch_2 rfl ?_
  refine jj_i2l (v := 0) C dX11_isTooMuch_3 (by decide) ?_
  refine jj_aload_n C dX11_isTooMuch_4 rfl ?_
  refine jj_get C jk_12 0 (by decide) jw_181 0 rfl rfl dX11_isTooMuch_5 ?_
  refine jj_bipush (v := 6) C dX11_isTooMuch_8 (by decide) ?_
  refine jj_lald (v := 0) C 1 rfl (vp_in_iff.mpr (by decide)) rfl dX11_isTooMuch_10 ?_
  refine jj_lcmp_geT (tgt := 89) C dX11_isTooMuch_11 dX11_isTooMuch_12 (by decide) (by decide) ?_
  refine jj_iconst (v := 0) C dX11_isTooMuch_89 (by decide) ?_
  exact jj_zret C rfl ⟨rfl, rfl⟩ dX11_isTooMuch_90 (jj_le rfl) (jj_le rfl)


set_option maxHeartbeats 4000000 in
set_option maxRecDepth 100000 in
theorem ct_X11_gain_1 {l : Launch} (hl : l.stackTraces = false) (D : va_G) (cA : Nat → ClassId) (ak : (Nat → Nat) × (Nat → Nat)) (h0 h1 h2 h3 h4 h5 h6 h7 h8 h9 h10 h11 h12 : Nat) (a0 : Int32) : jj_M l D cA ak yX11_gain (.code yX11_gain cX11_gain 8 (some .long)) 0 0 0 0 [(h0, .inr (12, [.ref h1, .ref h2, .ref h3, .ref h4, .ref h5, .ref h6, .int 1, .int 0, .long 0, .long 0, .ref h7, .ref h8, .ref h9, .int 0, .int 0, .int 0, .int 0, .int 0, .int (-1), .int 0, .int 0, .ref h10, .ref h11, .ref h12, .int 0])), (h1, .inl (cA 2, 334, .inr (.inl (vp_updL (vp_updL (fun _ => 0) 0 1) 4 100))))] [.ref h0, .int a0] (fun (w : va_W) (r : Option Value) => (w = [(h0, .inr (12, [.ref h1, .ref h2, .ref h3, .ref h4, .ref h5, .ref h6, .int 1, .int 0, .long 0, .long 0, .ref h7, .ref h8, .ref h9, .int 0, .int 0, .int 0, .int 0, .int 0, .int (-1), .int 0, .int 0, .ref h10, .ref h11, .ref h12, .int 0])), (h1, .inl (cA 2, 334, .inr (.inl (vp_updL (vp_updL (vp_updL (fun _ => 0) 0 1) 4 100) 14 0))))] ∧ r = some (.long 0))) jj_noX := by
  refine jj_start hl (by decide) jw_427 (jj_le rfl) ?_
  intro p e s m args below meth c A hargs hA C hex hmn
  refine jj_lconst (v := 0) C dX11_gain_0 (by decide) ?_
  refine jj_lstore_n C dX11_gain_1 (by decide) rfl ?_
  refine jj_iconst (v := 0) C dX11_gain_2 (by decide) ?_
  refine jj_istore C dX11_gain_3 (by decide) rfl ?_
  refine jj_iload C dX11_gain_5 rfl ?_
  refine jj_i2l (v := 0) C dX11_gain_7 (by decide) ?_
  refine jj_aload_n C dX11_gain_8 rfl ?_
  refine jj_get C jk_12 0 (by decide) jw_181 0 rfl rfl dX11_gain_9 ?_
  refine jj_bipush (v := 6) C dX11_gain_12 (by decide) ?_
  refine jj_lald (v := 0) C 1 rfl (vp_in_iff.mpr (by decide)) rfl dX11_gain_14 ?_
  refine jj_lcmp_geT (tgt := 69) C dX11_gain_15 dX11_gain_16 (by decide) (by decide) ?_
  refine jj_aload_n C dX11_gain_69 rfl ?_
  refine jj_get C jk_12 0 (by decide) jw_181 0 rfl rfl dX11_gain_70 ?_
  refine jj_bipush (v := 14) C dX11_gain_73 (by decide) ?_
  refine jj_dup2 C dX11_gain_75 rfl rfl ?_
  refine jj_lald (v := 0) C 1 rfl (vp_in_iff.mpr (by decide)) rfl dX11_gain_76 ?_
  refine jj_lload_n C dX11_gain_77 rfl ?_
  refine jj_ladd (v := 0) C dX11_gain_78 (by decide) ?_
  refine jj_last C 1 rfl (vp_in_iff.mpr (by decide)) (g := (vp_updL (vp_updL (vp_updL (fun _ => 0) 0 1) 4 100) 14 0)) rfl rfl dX11_gain_79 ?_
  refine jj_lload_n C dX11_gain_80 rfl ?_
  exact jj_lret C ⟨rfl, rfl⟩ dX11_gain_81 (jj_le rfl) (jj_le rfl)


set_option maxHeartbeats 4000000 in
set_option maxRecDepth 100000 in
theorem ct_X11_earn_1 {l : Launch} (hl : l.stackTraces = false) (D : va_G) (cA : Nat → ClassId) (ak : (Nat → Nat) × (Nat → Nat)) (h0 h1 h2 h3 h4 h5 h6 h7 h8 h9 h10 h11 h12 : Nat) (a0 : Int32) : jj_M l D cA ak yX11_earn (.code yX11_earn cX11_earn 2 (some .long)) 2 45 0 0 [(h0, .inr (12, [.ref h1, .ref h2, .ref h4, .ref h5, .ref h6, .ref h3, .int 0, .int 0, .long 0, .long 0, .ref h7, .ref h8, .ref h9, .int 0, .int 0, .int 0, .int 0, .int 0, .int (-1), .int 0, .int 0, .ref h10, .ref h11, .ref h12, .int 0])), (h1, .inl (cA 2, 334, .inr (.inl (vp_updL (vp_updL (fun _ => 0) 0 1) 4 100)))), (h2, .inl (cA 2, 334, .inr (.inl (fun _ => 0)))), (h3, .inl (cA 2, 3340, .inr (.inl (fun _ => 0))))] [.ref h0, .int a0] (fun (w : va_W) (r : Option Value) => (a0.toInt64 < (-9000) ∧ w = [(h1, .inl (cA 2, 334, .inr (.inl (vp_updL (vp_updL (fun _ => 0) 0 1) 4 100)))), (h2, .inl (cA 2, 334, .inr (.inl (fun _ => 0)))), (h3, .inl (cA 2, 3340, .inr (.inl (fun _ => 0)))), (h0, .inr (12, [.ref h1, .ref h2, .ref h4, .ref h5, .ref h6, .ref h3, .int 0, .int 1, .long 0, .long 0, .ref h7, .ref h8, .ref h9, .int 0, .int 0, .int 0, .int 0, .int 0, .int (-1), .int 0, .int 0, .ref h10, .ref h11, .ref h12, .int 0]))] ∧ r = some (.long 0)) ∨ (¬ a0.toInt64 < (-9000) ∧ 9999 < a0.toInt64 ∧ w = [(h1, .inl (cA 2, 334, .inr (.inl (vp_updL (vp_updL (fun _ => 0) 0 1) 4 100)))), (h2, .inl (cA 2, 334, .inr (.inl (fun _ => 0)))), (h3, .inl (cA 2, 3340, .inr (.inl (fun _ => 0)))), (h0, .inr (12, [.ref h1, .ref h2, .ref h4, .ref h5, .ref h6, .ref h3, .int 0, .int 1, .long 0, .long 0, .ref h7, .ref h8, .ref h9, .int 0, .int 0, .int 0, .int 0, .int 0, .int (-1), .int 0, .int 0, .ref h10, .ref h11, .ref h12, .int 0]))] ∧ r = some (.long 0)) ∨ (∃ (f_20 : Nat → Int64), ¬ a0.toInt64 < (-9000) ∧ ¬ 9999 < a0.toInt64 ∧ w = [(h2, .inl (cA 2, 334, .inr (.inl (jj_cpy (vp_updL (vp_updL (fun _ => 0) 0 1) 4 100) (fun _ => 0) 334)))), (h3, .inl (cA 2, 3340, .inr (.inl f_20))), (h0, .inr (12, [.ref h1, .ref h2, .ref h4, .ref h5, .ref h6, .ref h3, .int 1, .int 0, .long 0, .long 0, .ref h7, .ref h8, .ref h9, .int 0, .int 0, .int 0, .int 0, .int 0, .int (-1), .int 0, .int 0, .ref h10, .ref h11, .ref h12, .int 0])), (h1, .inl (cA 2, 334, .inr (.inl (vp_updL (vp_updL (vp_updL (fun _ => 0) 0 1) 4 100) 14 0))))] ∧ r = some (.long 0))) jj_noX := by
  refine jj_start hl (by decide) jw_432 (jj_le rfl) ?_
  intro p e s m args below meth c A hargs hA C hex hmn
  refine jj_aload_n C dX11_earn_0 rfl ?_
  refine jj_iload_n C dX11_earn_1 rfl ?_
  refine jq_callS (rest := [.ref h0]) C (ct_X11_isRate_1 hl D cA ak a0) [] [0, 1, 2, 3] rfl rfl (by decide) (by decide) (by decide) jw_419 jw_420 jw_224 jw_418 jn_X11_isRate rfl (jj_le rfl) (jj_le rfl) (jj_le rfl) (jj_le rfl) (jj_le rfl) dX11_earn_2 rfl (fun _ _ hX => hX.elim) (fun w1 r O_2 => ?_)
  rcases O_2 with ⟨c_3, rfl, rfl⟩ | ⟨c_4, c_5, rfl, rfl⟩ | ⟨c_6, c_7, rfl, rfl⟩
  · refine jj_apd rfl ?_
    refine jj_if_neF (tgt := 12) C dX11_earn_5 (by decide) (by decide) ?_
    refine jj_iconst (v := 1) C dX11_earn_8 (by decide) ?_
    refine jj_goto (tgt := 13) C dX11_earn_9 (by decide) ?_
    refine jj_iconst (v := 1) C dX11_earn_13 (by decide) ?_
    refine jq_callV (rest := []) C (ct_X11_fails_1 hl D cA ak h0 h1 h2 h4 h5 h6 h3 h7 h8 h9 h10 h11 h12) [0] [1, 2, 3] rfl rfl (by decide) (by decide) (by decide) 0 rfl rfl rfl jw_306 jw_307 jw_308 jw_224 jw_305 jn_X11_fails rfl (jj_le rfl) (jj_le rfl) (jj_le rfl) (jj_le rfl) (jj_le rfl) dX11_earn_14 rfl (fun _ _ hX => hX.elim) (fun w1 r O_9 => ?_)
    obtain ⟨rfl, rfl⟩ := O_9
    refine jj_apd rfl ?_
    refine jj_if_neT (tgt := 33) C dX11_earn_17 (by decide) (by decide) ?_
    refine jj_lconst (v := 0) C dX11_earn_33 (by decide) ?_
    exact jj_lret C (Or.inl ⟨c_3, rfl, rfl⟩) dX11_earn_34 (jj_le rfl) (jj_le rfl)
  · refine jj_apd rfl ?_
    refine jj_if_neF (tgt := 12) C dX11_earn_5 (by decide) (by decide) ?_
    refine jj_iconst (v := 1) C dX11_earn_8 (by decide) ?_
    refine jj_goto (tgt := 13) C dX11_earn_9 (by decide) ?_
    refine jj_iconst (v := 1) C dX11_earn_13 (by decide) ?_
    refine jq_callV (rest := []) C (ct_X11_fails_1 hl D cA ak h0 h1 h2 h4 h5 h6 h3 h7 h8 h9 h10 h11 h12) [0] [1, 2, 3] rfl rfl (by decide) (by decide) (by decide) 0 rfl rfl rfl jw_306 jw_307 jw_308 jw_224 jw_305 jn_X11_fails rfl (jj_le rfl) (jj_le rfl) (jj_le rfl) (jj_le rfl) (jj_le rfl) dX11_earn_14 rfl (fun _ _ hX => hX.elim) (fun w1 r O_11 => ?_)
    obtain ⟨rfl, rfl⟩ := O_11
    refine jj_apd rfl ?_
    refine jj_if_neT (tgt := 33) C dX11_earn_17 (by decide) (by decide) ?_
    refine jj_lconst (v := 0) C dX11_earn_33 (by decide) ?_
    exact jj_lret C (Or.inr (Or.inl ⟨c_4, c_5, rfl, rfl⟩)) dX11_earn_34 (jj_le rfl) (jj_le rfl)
  · refine jj_apd rfl ?_
    refine jj_if_neT (tgt := 12) C dX11_earn_5 (by decide) (by decide) ?_
    refine jj_iconst (v := 0) C dX11_earn_12 (by decide) ?_
    refine jj_iconst (v := 1) C dX11_earn_13 (by decide) ?_
    refine jq_callV (rest := []) C (ct_X11_fails_2 hl D cA ak h0 h1 h2 h4 h5 h6 h3 h7 h8 h9 h10 h11 h12) [0] [1, 2, 3] rfl rfl (by decide) (by decide) (by decide) 0 rfl rfl rfl jw_306 jw_307 jw_308 jw_224 jw_305 jn_X11_fails rfl (jj_le rfl) (jj_le rfl) (jj_le rfl) (jj_le rfl) (jj_le rfl) dX11_earn_14 rfl (fun _ _ hX => hX.elim) (fun w1 r O_13 => ?_)
    obtain ⟨rfl, rfl⟩ := O_13
    refine jj_apd rfl ?_
    refine jj_if_neF (tgt := 33) C dX11_earn_17 (by decide) (by decide) ?_
    refine jj_aload_n C dX11_earn_20 rfl ?_
    refine jj_aload_n C dX11_earn_21 rfl ?_
    refine jj_iload_n C dX11_earn_22 rfl ?_
    refine jq_callV (rest := [.ref h0]) C (ct_X11_isTooMuch_1 hl D cA ak h0 h1 h2 h4 h5 h6 h3 h7 h8 h9 h10 h11 h12 a0) [3, 0] [1, 2] rfl rfl (by decide) (by decide) (by decide) 0 rfl rfl rfl jw_423 jw_424 jw_425 jw_224 jw_422 jn_X11_isTooMuch rfl (jj_le rfl) (jj_le rfl) (jj_le rfl) (jj_le rfl) (jj_le rfl) dX11_earn_23 rfl (fun _ _ hX => hX.elim) (fun w1 r O_15 => ?_)
    obtain ⟨rfl, rfl⟩ := O_15
    refine jj_apd rfl ?_
    refine jj_iconst (v := 2) C dX11_earn_26 (by decide) ?_
    refine jq_callV (rest := []) C (ct_X11_fails_4 hl D cA ak h0 h1 h2 h4 h5 h6 h3 h7 h8 h9 h10 h11 h12) [2] [0, 1, 3] rfl rfl (by decide) (by decide) (by decide) 0 rfl rfl rfl jw_306 jw_307 jw_308 jw_224 jw_305 jn_X11_fails rfl (jj_le rfl) (jj_le rfl) (jj_le rfl) (jj_le rfl) (jj_le rfl) dX11_earn_27 rfl (fun _ _ hX => hX.elim) (fun w1 r O_17 => ?_)
    obtain ⟨rfl, rfl⟩ := O_17
    refine jj_apd rfl ?_
    refine jj_if_eqT (tgt := 35) C dX11_earn_30 (by decide) (by decide) ?_
    refine jj_aload_n C dX11_earn_35 rfl ?_
    refine jq_callV (rest := []) C (ct_X11_remember_1 hl D cA ak h0 h1 h2 h3 h4 h5 h6 h7 h8 h9 h10 h11 h12) [3, 2, 0, 1] [] rfl rfl (by decide) (by decide) (by decide) 0 rfl rfl rfl jw_337 jw_338 jw_339 jw_224 jw_336 jn_X11_remember rfl (jj_le rfl) (jj_le rfl) (jj_le rfl) (jj_le rfl) (jj_le rfl) dX11_earn_36 rfl (fun _ _ hX => hX.elim) (fun w1 r O_19 => ?_)
    obtain ⟨f_20, rfl, rfl⟩ := O_19
    refine jj_apd rfl ?_
    refine jj_aload_n C dX11_earn_39 rfl ?_
    refine jj_iload_n C dX11_earn_40 rfl ?_
    refine jq_callV (rest := []) C (ct_X11_gain_1 hl D cA ak h0 h1 h2 h4 h5 h6 h3 h7 h8 h9 h10 h11 h12 a0) [1, 0] [2, 3] rfl rfl (by decide) (by decide) (by decide) 0 rfl rfl rfl jw_428 jw_429 jw_430 jw_224 jw_427 jn_X11_gain rfl (jj_le rfl) (jj_le rfl) (jj_le rfl) (jj_le rfl) (jj_le rfl) dX11_earn_41 rfl (fun _ _ hX => hX.elim) (fun w1 r O_22 => ?_)
    obtain ⟨rfl, rfl⟩ := O_22
    refine jj_apd rfl ?_
    exact jj_lret C (Or.inr (Or.inr ⟨f_20, c_6, c_7, rfl, rfl⟩)) dX11_earn_44 (jj_le rfl) (jj_le rfl)


set_option maxHeartbeats 4000000 in
set_option maxRecDepth 100000 in
theorem ct_X2_passingFault_1 {l : Launch} (hl : l.stackTraces = false) (D : va_G) (cA : Nat → ClassId) (ak : (Nat → Nat) × (Nat → Nat)) (a0 : Int32) : jj_M l D cA ak yX2_passingFault (.code yX2_passingFault cX2_passingFault 1 (some .int)) 0 0 0 0 [] [.int a0] (fun (w : va_W) (r : Option Value) => (a0 < 1 ∧ w = [] ∧ r = some (.int 2)) ∨ (¬ a0 < 1 ∧ a0 ≤ 400 ∧ w = [] ∧ r = some (.int 0)) ∨ (¬ a0 < 1 ∧ ¬ a0 ≤ 400 ∧ w = [] ∧ r = some (.int 2))) jj_noX := by
  refine jj_start hl (by decide) jw_433 (jj_le rfl) ?_
  intro p e s m args below meth c A hargs hA C hex hmn
  refine jj_iload_n C dX2_passingFault_0 rfl ?_
  refine jj_iconst (v := 1) C dX2_passingFault_1 (by decide) ?_
  refine jj_icmp_lt (tgt := 12) C dX2_passingFault_2 (by decide) (fun c_1 => ?_) (fun c_1 => ?_)
  · refine jj_iconst (v := 2) C dX2_passingFault_12 (by decide) ?_
    refine jj_goto (tgt := 17) C dX2_passingFault_13 (by decide) ?_
    exact jj_iret C (Or.inl ⟨c_1, rfl, rfl⟩) dX2_passingFault_17 (jj_le rfl) (jj_le rfl)
  · refine jj_iload_n C dX2_passingFault_5 rfl ?_
    refine jj_sipush (v := 400) C dX2_passingFault_6 (by decide) ?_
    refine jj_icmp_le (tgt := 16) C dX2_passingFault_9 (by decide) (fun c_2 => ?_) (fun c_2 => ?_)
    · refine jj_iconst (v := 0) C dX2_passingFault_16 (by decide) ?_
      exact jj_iret C (Or.inr (Or.inl ⟨c_1, c_2, rfl, rfl⟩)) dX2_passingFault_17 (jj_le rfl) (jj_le rfl)
    · refine jj_iconst (v := 2) C dX2_passingFault_12 (by decide) ?_
      refine jj_goto (tgt := 17) C dX2_passingFault_13 (by decide) ?_
      exact jj_iret C (Or.inr (Or.inr ⟨c_1, c_2, rfl, rfl⟩)) dX2_passingFault_17 (jj_le rfl) (jj_le rfl)


set_option maxHeartbeats 4000000 in
set_option maxRecDepth 100000 in
theorem ct_X2_chargeDays_1 {l : Launch} (hl : l.stackTraces = false) (D : va_G) (cA : Nat → ClassId) (ak : (Nat → Nat) × (Nat → Nat)) (h0 h1 h2 h3 h4 : Nat) (a0 : Int32) : jj_M l D cA ak yX2_chargeDays (.code yX2_chargeDays cX2_chargeDays 8 (some .long)) 0 0 0 0 [(h0, .inr (2, [.int 1, .int 0, .int 0, .int 0, .int 100, .int 0, .int 0, .int 0, .int 0, .int 0, .ref h1, .ref h2, .ref h3, .ref h4])), (h1, .inl (cA 2, 6, .inr (.inl (fun _ => 0))))] [.ref h0, .int a0] (fun (w : va_W) (r : Option Value) => (r = some (.long 0))) jj_noX := by
  refine jj_start hl (by decide) jw_438 (jj_le rfl) ?_
  intro p e s m args below meth c A hargs hA C hex hmn
  refine jj_lconst (v := 0) C dX2_chargeDays_0 (by decide) ?_
  refine jj_lstore_n C dX2_chargeDays_1 (by decide) rfl ?_
  refine jj_iconst (v := 0) C dX2_chargeDays_2 (by decide) ?_
  refine jj_istore C dX2_chargeDays_3 (by decide) rfl ?_
  rcases jj_em (a0 < 0) with hneg | hneg
  · refine jj_iload C dX2_chargeDays_5 rfl ?_
    refine jj_iload_n C dX2_chargeDays_7 rfl ?_
    refine jj_icmp_geT (tgt := 89) C dX2_chargeDays_8 (by decide) (Int32.le_of_lt hneg) ?_
    refine jj_aload_n C dX2_chargeDays_89 rfl ?_
    refine jj_get C jk_2 10 (by decide) jw_410 0 rfl rfl dX2_chargeDays_90 ?_
    refine jj_iconst (v := 0) C dX2_chargeDays_93 (by decide) ?_
    refine jj_dup2 C dX2_chargeDays_94 rfl rfl ?_
    refine jj_lald (v := 0) C 1 rfl (vp_in_iff.mpr (by decide)) rfl dX2_chargeDays_95 ?_
    refine jj_lload_n C dX2_chargeDays_96 rfl ?_
    refine jj_ladd (v := 0) C dX2_chargeDays_97 (by decide) ?_
    refine jj_last C 1 rfl (vp_in_iff.mpr (by decide)) (g := (vp_updL (fun _ => 0) 0 0)) rfl rfl dX2_chargeDays_98 ?_
    refine jj_aload_n C dX2_chargeDays_99 rfl ?_
    refine jj_get C jk_2 10 (by decide) jw_410 0 rfl rfl dX2_chargeDays_100 ?_
    refine jj_iconst (v := 5) C dX2_chargeDays_103 (by decide) ?_
    refine jj_dup2 C dX2_chargeDays_104 rfl rfl ?_
    refine jj_lald (v := 0) C 1 rfl (vp_in_iff.mpr (by decide)) rfl dX2_chargeDays_105 ?_
    refine jj_lload_n C dX2_chargeDays_106 rfl ?_
    refine jj_ladd (v := 0) C dX2_chargeDays_107 (by decide) ?_
    refine jj_last C 1 rfl (vp_in_iff.mpr (by decide)) (g := (vp_updL (vp_updL (fun _ => 0) 0 0) 5 0)) rfl rfl dX2_chargeDays_108 ?_
    refine jj_lload_n C dX2_chargeDays_109 rfl ?_
    exact jj_lret C rfl dX2_chargeDays_110 (jj_le rfl) (jj_le rfl)
  · obtain ⟨d, hd, rfl⟩ := nI_of hneg
    have hL : ∀ (n i : Nat) (dv : Int32), i + n = d → jj_J p l e (jj_rm 0 0 0 0) s m args below meth c 8 A (vx_MQ below (jj_q D A (fun (w : va_W) (r : Option Value) => (r = some (.long 0)))) (jj_x D A jj_noX) args s 0 0 A) (jj_X D A [(h0, .inr (2, [.int 1, .int 0, .int 0, .int 0, .int 100, .int dv, .int 0, .int 0, .int 0, .int 0, .ref h1, .ref h2, .ref h3, .ref h4])), (h1, .inl (cA 2, 6, .inr (.inl (fun _ => 0))))]) 0 0 5 [(4, .int (nI i)), (2, .long 0), (0, .ref h0), (1, .int (nI d))] [] := by
      intro n
      induction n with
      | zero =>
        intro i dv hin
        obtain rfl : i = d := by omega
        refine jj_iload C dX2_chargeDays_5 rfl ?_
        refine jj_iload_n C dX2_chargeDays_7 rfl ?_
        refine jj_icmp_geT (tgt := 89) C dX2_chargeDays_8 (by decide) (jj_refl _) ?_
        refine jj_aload_n C dX2_chargeDays_89 rfl ?_
        refine jj_get C jk_2 10 (by decide) jw_410 0 rfl rfl dX2_chargeDays_90 ?_
        refine jj_iconst (v := 0) C dX2_chargeDays_93 (by decide) ?_
        refine jj_dup2 C dX2_chargeDays_94 rfl rfl ?_
        refine jj_lald (v := 0) C 1 rfl (vp_in_iff.mpr (by decide)) rfl dX2_chargeDays_95 ?_
        refine jj_lload_n C dX2_chargeDays_96 rfl ?_
        refine jj_ladd (v := 0) C dX2_chargeDays_97 (by decide) ?_
        refine jj_last C 1 rfl (vp_in_iff.mpr (by decide)) (g := (vp_updL (fun _ => 0) 0 0)) rfl rfl dX2_chargeDays_98 ?_
        refine jj_aload_n C dX2_chargeDays_99 rfl ?_
        refine jj_get C jk_2 10 (by decide) jw_410 0 rfl rfl dX2_chargeDays_100 ?_
        refine jj_iconst (v := 5) C dX2_chargeDays_103 (by decide) ?_
        refine jj_dup2 C dX2_chargeDays_104 rfl rfl ?_
        refine jj_lald (v := 0) C 1 rfl (vp_in_iff.mpr (by decide)) rfl dX2_chargeDays_105 ?_
        refine jj_lload_n C dX2_chargeDays_106 rfl ?_
        refine jj_ladd (v := 0) C dX2_chargeDays_107 (by decide) ?_
        refine jj_last C 1 rfl (vp_in_iff.mpr (by decide)) (g := (vp_updL (vp_updL (fun _ => 0) 0 0) 5 0)) rfl rfl dX2_chargeDays_108 ?_
        refine jj_lload_n C dX2_chargeDays_109 rfl ?_
        exact jj_lret C rfl dX2_chargeDays_110 (jj_le rfl) (jj_le rfl)
      | succ n ih =>
        intro i dv hin
        refine jj_iload C dX2_chargeDays_5 rfl ?_
        refine jj_iload_n C dX2_chargeDays_7 rfl ?_
        refine jj_icmp_geF (tgt := 89) C dX2_chargeDays_8 (by decide) (nI_ge (by omega) hd) ?_
        refine jj_iconst (v := 0) C dX2_chargeDays_11 (by decide) ?_
        refine jj_istore C dX2_chargeDays_12 (by decide) rfl ?_
        refine jj_iload C dX2_chargeDays_14 rfl ?_
        refine jj_aload_n C dX2_chargeDays_16 rfl ?_
        refine jj_get C jk_2 7 (by decide) jw_404 0 rfl rfl dX2_chargeDays_17 ?_
        refine jj_icmp_geT (tgt := 73) C dX2_chargeDays_20 (by decide) (by decide) ?_
        refine jj_aload_n C dX2_chargeDays_73 rfl ?_
        refine jj_dup C dX2_chargeDays_74 rfl ?_
        refine jj_get C jk_2 5 (by decide) jw_437 0 rfl rfl dX2_chargeDays_75 ?_
        refine jj_iconst (v := 1) C dX2_chargeDays_78 (by decide) ?_
        refine jj_iadd C dX2_chargeDays_79 rfl ?_
        refine jj_put C jk_2 5 (by decide) jw_437 rfl 0 rfl rfl rfl rfl rfl dX2_chargeDays_80 ?_
        refine jj_iinc (v := nI (i + 1)) C dX2_chargeDays_83 rfl (jj_ni i) (by decide) rfl ?_
        refine jj_goto (tgt := 5) C dX2_chargeDays_86 (by decide) ?_
        refine jj_loc [0, 2, 3, 4] rfl ?_
        exact ih (i + 1) (dv + 1) (by omega)
    exact hL d 0 0 (Nat.zero_add _)


set_option maxHeartbeats 4000000 in
set_option maxRecDepth 100000 in
theorem ct_X10_passDays_1 {l : Launch} (hl : l.stackTraces = false) (D : va_G) (cA : Nat → ClassId) (ak : (Nat → Nat) × (Nat → Nat)) (h0 h1 h2 h3 h4 h5 h6 h7 h8 h9 h10 : Nat) (a0 : Int32) : jj_M l D cA ak yX10_passDays (.code yX10_passDays cX10_passDays 2 (some .long)) 7 102 63 408 [(h0, .inr (11, [.ref h4, .int 0, .int (-1), .ref h1, .ref h5, .ref h6, .ref h2, .int 0, .int 0, .ref h7])), (h1, .inr (2, [.int 1, .int 0, .int 0, .int 0, .int 100, .int 0, .int 0, .int 0, .int 0, .int 0, .ref h3, .ref h8, .ref h9, .ref h10])), (h2, .inl (cA 5, 10, .inr (.inr (.inr (.inr (fun _ => none)))))), (h3, .inl (cA 2, 6, .inr (.inl (fun _ => 0))))] [.ref h0, .int a0] (fun (w : va_W) (r : Option Value) => (¬ a0 < 1 ∧ a0 ≤ 400 ∧ r = some (.long 0))) (fun (E : String) (w : va_W) => (E = "java/lang/IllegalArgumentException" ∧ a0 < 1) ∨ (E = "java/lang/IllegalArgumentException" ∧ ¬ a0 < 1 ∧ ¬ a0 ≤ 400)) := by
  refine jj_start hl (by decide) jw_442 (jj_le rfl) ?_
  intro p e s m args below meth c A hargs hA C hex hmn
  refine jj_iload_n C dX10_passDays_0 rfl ?_
  refine jq_callS (rest := []) C (ct_X2_passingFault_1 hl D cA ak a0) [] [0, 1, 2, 3] rfl rfl (by decide) (by decide) (by decide) jw_434 jw_435 jw_407 jw_433 jn_X2_passingFault rfl (jj_le rfl) (jj_le rfl) (jj_le rfl) (jj_le rfl) (jj_le rfl) dX10_passDays_1 rfl (fun _ _ hX => hX.elim) (fun w1 r O_2 => ?_)
  rcases O_2 with ⟨c_3, rfl, rfl⟩ | ⟨c_4, c_5, rfl, rfl⟩ | ⟨c_6, c_7, rfl, rfl⟩
  · refine jj_apd rfl ?_
    refine jq_callS (rest := []) C (ct_X10_refuse_2 hl D cA ak) [] [0, 1, 2, 3] rfl rfl (by decide) (by decide) (by decide) jw_270 jw_272 jw_271 jw_269 jn_X10_refuse rfl (jj_le rfl) (jj_le rfl) (jj_le rfl) (jj_le rfl) (jj_le rfl) dX10_passDays_4 rfl (fun E w1 X_8 => ?_) (fun w1 r O_9 => ?_)
    · obtain rfl := X_8
      refine jj_leftY ?_
      exact jj_out C hex (Or.inl ⟨rfl, c_3⟩) (jj_le rfl) (jj_le rfl)
    · exact O_9.elim
  · refine jj_apd rfl ?_
    refine jq_callS (rest := []) C (ct_X10_refuse_3 hl D cA ak) [] [0, 1, 2, 3] rfl rfl (by decide) (by decide) (by decide) jw_270 jw_272 jw_271 jw_269 jn_X10_refuse rfl (jj_le rfl) (jj_le rfl) (jj_le rfl) (jj_le rfl) (jj_le rfl) dX10_passDays_4 rfl (fun _ _ hX => hX.elim) (fun w1 r O_11 => ?_)
    obtain ⟨rfl, rfl⟩ := O_11
    refine jj_apd rfl ?_
    refine jj_aload_n C dX10_passDays_7 rfl ?_
    refine jq_callV (rest := []) C (ct_X10_remember_1 hl D cA ak h0 h1 h2 h3 h4 h5 h6 h7 h8 h9 h10) [0, 1, 2, 3] [] rfl rfl (by decide) (by decide) (by decide) 0 rfl rfl rfl jw_280 jw_281 jw_282 jw_271 jw_279 jn_X10_remember rfl (jj_le rfl) (jj_le rfl) (jj_le rfl) (jj_le rfl) (jj_le rfl) dX10_passDays_8 rfl (fun _ _ hX => hX.elim) (fun w1 r O_13 => ?_)
    obtain ⟨q_14, q_15, q_16, q_17, q_18, q_19, f_20, c_21, rfl, rfl⟩ := O_13
    refine jj_apd rfl ?_
    refine jj_aload_n C dX10_passDays_11 rfl ?_
    refine jj_get C jk_11 3 (by decide) jw_135 0 rfl rfl dX10_passDays_12 ?_
    refine jj_iload_n C dX10_passDays_15 rfl ?_
    refine jq_callS (rest := []) C (ct_X2_chargeDays_1 hl D cA ak h1 h3 h8 h9 h10 a0) [5, 7] [0, 1, 2, 3, 4, 6] rfl rfl (by decide) (by decide) (by decide) jw_439 jw_440 jw_407 jw_438 jn_X2_chargeDays rfl (jj_le rfl) (jj_le rfl) (jj_le rfl) (jj_le rfl) (jj_le rfl) dX10_passDays_16 rfl (fun _ _ hX => hX.elim) (fun w1 r O_23 => ?_)
    obtain rfl := O_23
    refine jj_left ?_
    exact jj_lret C ⟨c_4, c_5, rfl⟩ dX10_passDays_19 (jj_le rfl) (jj_le rfl)
  · refine jj_apd rfl ?_
    refine jq_callS (rest := []) C (ct_X10_refuse_2 hl D cA ak) [] [0, 1, 2, 3] rfl rfl (by decide) (by decide) (by decide) jw_270 jw_272 jw_271 jw_269 jn_X10_refuse rfl (jj_le rfl) (jj_le rfl) (jj_le rfl) (jj_le rfl) (jj_le rfl) dX10_passDays_4 rfl (fun E w1 X_24 => ?_) (fun w1 r O_25 => ?_)
    · obtain rfl := X_24
      refine jj_leftY ?_
      exact jj_out C hex (Or.inr ⟨rfl, c_6, c_7⟩) (jj_le rfl) (jj_le rfl)
    · exact O_25.elim


set_option maxHeartbeats 4000000 in
set_option maxRecDepth 100000 in
theorem ct_X11_in_6 {l : Launch} (hl : l.stackTraces = false) (D : va_G) (cA : Nat → ClassId) (ak : (Nat → Nat) × (Nat → Nat)) (b0 : Int64) : jj_M l D cA ak yX11_in (.code yX11_in cX11_in 6 (some .boolean)) 0 0 0 0 [] [.long b0, .long 1, .long 400] (fun (w : va_W) (r : Option Value) => (b0 < 1 ∧ w = [] ∧ r = some (.int 0)) ∨ (¬ b0 < 1 ∧ 400 < b0 ∧ w = [] ∧ r = some (.int 0)) ∨ (¬ b0 < 1 ∧ ¬ 400 < b0 ∧ w = [] ∧ r = some (.int 1))) jj_noX := by
  refine jj_start hl (by decide) jw_246 (jj_le rfl) ?_
  intro p e s m args below meth c A hargs hA C hex hmn
  refine jj_lload_n C dX11_in_0 rfl ?_
  refine jj_lload_n C dX11_in_1 rfl ?_
  refine jj_lcmp_lt (tgt := 17) C dX11_in_2 dX11_in_3 (by decide) (fun c_1 => ?_) (fun c_1 => ?_)
  · refine jj_iconst (v := 0) C dX11_in_17 (by decide) ?_
    exact jj_zret C rfl (Or.inl ⟨c_1, rfl, rfl⟩) dX11_in_18 (jj_le rfl) (jj_le rfl)
  · refine jj_lload_n C dX11_in_6 rfl ?_
    refine jj_lload C dX11_in_7 rfl ?_
    refine jj_lcmp_gt (tgt := 17) C dX11_in_9 dX11_in_10 (by decide) (fun c_2 => ?_) (fun c_2 => ?_)
    · refine jj_iconst (v := 0) C dX11_in_17 (by decide) ?_
      exact jj_zret C rfl (Or.inr (Or.inl ⟨c_1, c_2, rfl, rfl⟩)) dX11_in_18 (jj_le rfl) (jj_le rfl)
    · refine jj_iconst (v := 1) C dX11_in_13 (by decide) ?_
      refine jj_goto (tgt := 18) C dX11_in_14 (by decide) ?_
      exact jj_zret C rfl (Or.inr (Or.inr ⟨c_1, c_2, rfl, rfl⟩)) dX11_in_18 (jj_le rfl) (jj_le rfl)


set_option maxHeartbeats 4000000 in
set_option maxRecDepth 100000 in
theorem ct_X11_goDays_1 {l : Launch} (hl : l.stackTraces = false) (D : va_G) (cA : Nat → ClassId) (ak : (Nat → Nat) × (Nat → Nat)) (h0 h1 h2 h3 h4 h5 h6 h7 h8 h9 h10 h11 h12 : Nat) (a0 : Int32) : jj_M l D cA ak yX11_goDays (.code yX11_goDays cX11_goDays 8 (some .long)) 0 0 0 0 [(h0, .inr (12, [.ref h1, .ref h2, .ref h3, .ref h4, .ref h5, .ref h6, .int 1, .int 0, .long 0, .long 0, .ref h7, .ref h8, .ref h9, .int 0, .int 0, .int 0, .int 0, .int 0, .int (-1), .int 0, .int 0, .ref h10, .ref h11, .ref h12, .int 0])), (h1, .inl (cA 2, 334, .inr (.inl (vp_updL (vp_updL (fun _ => 0) 0 1) 4 100))))] [.ref h0, .int a0] (fun (w : va_W) (r : Option Value) => (w = [(h0, .inr (12, [.ref h1, .ref h2, .ref h3, .ref h4, .ref h5, .ref h6, .int 1, .int 0, .long 0, .long 0, .ref h7, .ref h8, .ref h9, .int 0, .int 0, .int 0, .int 0, .int 0, .int (-1), .int 0, .int 0, .ref h10, .ref h11, .ref h12, .int 0]))] ∧ r = some (.long 0))) jj_noX := by
  refine jj_start hl (by decide) jw_444 (jj_le rfl) ?_
  intro p e s m args below meth c A hargs hA C hex hmn
  refine jj_lconst (v := 0) C dX11_goDays_0 (by decide) ?_
  refine jj_lstore_n C dX11_goDays_1 (by decide) rfl ?_
  refine jj_iconst (v := 0) C dX11_goDays_2 (by decide) ?_
  refine jj_istore C dX11_goDays_3 (by decide) rfl ?_
  rcases jj_em (a0 < 0) with hneg | hneg
  · refine jj_iload C dX11_goDays_5 rfl ?_
    refine jj_iload_n C dX11_goDays_7 rfl ?_
    refine jj_icmp_geT (tgt := 97) C dX11_goDays_8 (by decide) (Int32.le_of_lt hneg) ?_
    refine jj_aload_n C dX11_goDays_97 rfl ?_
    refine jj_get C jk_12 0 (by decide) jw_181 0 rfl rfl dX11_goDays_98 ?_
    refine jj_bipush (v := 15) C dX11_goDays_101 (by decide) ?_
    refine jj_dup2 C dX11_goDays_103 rfl rfl ?_
    refine jj_lald (v := 0) C 1 rfl (vp_in_iff.mpr (by decide)) rfl dX11_goDays_104 ?_
    refine jj_lload_n C dX11_goDays_105 rfl ?_
    refine jj_ladd (v := 0) C dX11_goDays_106 (by decide) ?_
    refine jj_last C 1 rfl (vp_in_iff.mpr (by decide)) (g := (vp_updL (vp_updL (vp_updL (fun _ => 0) 0 1) 4 100) 15 0)) rfl rfl dX11_goDays_107 ?_
    refine jj_aload_n C dX11_goDays_108 rfl ?_
    refine jj_get C jk_12 0 (by decide) jw_181 0 rfl rfl dX11_goDays_109 ?_
    refine jj_bipush (v := 10) C dX11_goDays_112 (by decide) ?_
    refine jj_dup2 C dX11_goDays_114 rfl rfl ?_
    refine jj_lald (v := 0) C 1 rfl (vp_in_iff.mpr (by decide)) rfl dX11_goDays_115 ?_
    refine jj_lload_n C dX11_goDays_116 rfl ?_
    refine jj_ladd (v := 0) C dX11_goDays_117 (by decide) ?_
    refine jj_last C 1 rfl (vp_in_iff.mpr (by decide)) (g := (vp_updL (vp_updL (vp_updL (vp_updL (fun _ => 0) 0 1) 4 100) 15 0) 10 0)) rfl rfl dX11_goDays_118 ?_
    refine jj_lload_n C dX11_goDays_119 rfl ?_
    refine jj_drop [0] rfl (by decide) ?_
    exact jj_lret C ⟨rfl, rfl⟩ dX11_goDays_120 (jj_le rfl) (jj_le rfl)
  · obtain ⟨d, hd, rfl⟩ := nI_of hneg
    have hL : ∀ (n i : Nat) (g : Nat → Int64), i + n = d → g 6 = 0 → jj_J p l e (jj_rm 0 0 0 0) s m args below meth c 8 A (vx_MQ below (jj_q D A (fun (w : va_W) (r : Option Value) => (w = [(h0, .inr (12, [.ref h1, .ref h2, .ref h3, .ref h4, .ref h5, .ref h6, .int 1, .int 0, .long 0, .long 0, .ref h7, .ref h8, .ref h9, .int 0, .int 0, .int 0, .int 0, .int 0, .int (-1), .int 0, .int 0, .ref h10, .ref h11, .ref h12, .int 0]))] ∧ r = some (.long 0)))) (jj_x D A jj_noX) args s 0 0 A) (jj_X D A [(h0, .inr (12, [.ref h1, .ref h2, .ref h3, .ref h4, .ref h5, .ref h6, .int 1, .int 0, .long 0, .long 0, .ref h7, .ref h8, .ref h9, .int 0, .int 0, .int 0, .int 0, .int 0, .int (-1), .int 0, .int 0, .ref h10, .ref h11, .ref h12, .int 0])), (h1, .inl (cA 2, 334, .inr (.inl g)))]) 0 0 5 [(4, .int (nI i)), (2, .long 0), (0, .ref h0), (1, .int (nI d))] [] := by
      intro n
      induction n with
      | zero =>
        intro i g hin hg6
        obtain rfl : i = d := by omega
        refine jj_iload C dX11_goDays_5 rfl ?_
        refine jj_iload_n C dX11_goDays_7 rfl ?_
        refine jj_icmp_geT (tgt := 97) C dX11_goDays_8 (by decide) (jj_refl _) ?_
        refine jj_aload_n C dX11_goDays_97 rfl ?_
        refine jj_get C jk_12 0 (by decide) jw_181 0 rfl rfl dX11_goDays_98 ?_
        refine jj_bipush (v := 15) C dX11_goDays_101 (by decide) ?_
        refine jj_dup2 C dX11_goDays_103 rfl rfl ?_
        refine jj_lald (v := (g 15)) C 1 rfl (vp_in_iff.mpr (by decide)) rfl dX11_goDays_104 ?_
        refine jj_lload_n C dX11_goDays_105 rfl ?_
        refine jj_ladd C dX11_goDays_106 rfl ?_
        refine jj_last C 1 rfl (vp_in_iff.mpr (by decide)) (g := (vp_updL g 15 ((g 15) + 0))) rfl rfl dX11_goDays_107 ?_
        refine jj_aload_n C dX11_goDays_108 rfl ?_
        refine jj_get C jk_12 0 (by decide) jw_181 0 rfl rfl dX11_goDays_109 ?_
        refine jj_bipush (v := 10) C dX11_goDays_112 (by decide) ?_
        refine jj_dup2 C dX11_goDays_114 rfl rfl ?_
        refine jj_lald (v := ((vp_updL g 15 ((g 15) + 0)) 10)) C 1 rfl (vp_in_iff.mpr (by decide)) rfl dX11_goDays_115 ?_
        refine jj_lload_n C dX11_goDays_116 rfl ?_
        refine jj_ladd C dX11_goDays_117 rfl ?_
        refine jj_last C 1 rfl (vp_in_iff.mpr (by decide)) (g := (vp_updL (vp_updL g 15 ((g 15) + 0)) 10 (((vp_updL g 15 ((g 15) + 0)) 10) + 0))) rfl rfl dX11_goDays_118 ?_
        refine jj_lload_n C dX11_goDays_119 rfl ?_
        refine jj_drop [0] rfl (by decide) ?_
        exact jj_lret C ⟨rfl, rfl⟩ dX11_goDays_120 (jj_le rfl) (jj_le rfl)
      | succ n ih =>
        intro i g hin hg6
        refine jj_iload C dX11_goDays_5 rfl ?_
        refine jj_iload_n C dX11_goDays_7 rfl ?_
        refine jj_icmp_geF (tgt := 97) C dX11_goDays_8 (by decide) (nI_ge (by omega) hd) ?_
        refine jj_iconst (v := 0) C dX11_goDays_11 (by decide) ?_
        refine jj_istore C dX11_goDays_12 (by decide) rfl ?_
        refine jj_iload C dX11_goDays_14 rfl ?_
        refine jj_i2l (v := 0) C dX11_goDays_16 (by decide) ?_
        refine jj_aload_n C dX11_goDays_17 rfl ?_
        refine jj_get C jk_12 0 (by decide) jw_181 0 rfl rfl dX11_goDays_18 ?_
        refine jj_bipush (v := 6) C dX11_goDays_21 (by decide) ?_
        refine jj_lald (v := 0) C 1 rfl (vp_in_iff.mpr (by decide)) hg6 dX11_goDays_23 ?_
        refine jj_lcmp_geT (tgt := 81) C dX11_goDays_24 dX11_goDays_25 (by decide) (by decide) ?_
        refine jj_aload_n C dX11_goDays_81 rfl ?_
        refine jj_get C jk_12 0 (by decide) jw_181 0 rfl rfl dX11_goDays_82 ?_
        refine jj_iconst (v := 5) C dX11_goDays_85 (by decide) ?_
        refine jj_dup2 C dX11_goDays_86 rfl rfl ?_
        refine jj_lald (v := (g 5)) C 1 rfl (vp_in_iff.mpr (by decide)) rfl dX11_goDays_87 ?_
        refine jj_lconst (v := 1) C dX11_goDays_88 (by decide) ?_
        refine jj_ladd C dX11_goDays_89 rfl ?_
        refine jj_last C 1 rfl (vp_in_iff.mpr (by decide)) (g := (vp_updL g 5 ((g 5) + 1))) rfl rfl dX11_goDays_90 ?_
        refine jj_iinc (v := nI (i + 1)) C dX11_goDays_91 rfl (jj_ni i) (by decide) rfl ?_
        refine jj_goto (tgt := 5) C dX11_goDays_94 (by decide) ?_
        refine jj_loc [0, 2, 3, 4] rfl ?_
        exact ih (i + 1) (vp_updL g 5 ((g 5) + 1)) (by omega) ((pk_uLn (by decide)).trans hg6)
    exact hL d 0 (vp_updL (vp_updL (fun _ => 0) 0 1) 4 100) (Nat.zero_add _) rfl


set_option maxHeartbeats 4000000 in
set_option maxRecDepth 100000 in
theorem ct_X11_passDays_1 {l : Launch} (hl : l.stackTraces = false) (D : va_G) (cA : Nat → ClassId) (ak : (Nat → Nat) × (Nat → Nat)) (h0 h1 h2 h3 h4 h5 h6 h7 h8 h9 h10 h11 h12 : Nat) (a0 : Int32) : jj_M l D cA ak yX11_passDays (.code yX11_passDays cX11_passDays 2 (some .long)) 2 42 0 0 [(h0, .inr (12, [.ref h1, .ref h2, .ref h4, .ref h5, .ref h6, .ref h3, .int 0, .int 0, .long 0, .long 0, .ref h7, .ref h8, .ref h9, .int 0, .int 0, .int 0, .int 0, .int 0, .int (-1), .int 0, .int 0, .ref h10, .ref h11, .ref h12, .int 0])), (h1, .inl (cA 2, 334, .inr (.inl (vp_updL (vp_updL (fun _ => 0) 0 1) 4 100)))), (h2, .inl (cA 2, 334, .inr (.inl (fun _ => 0)))), (h3, .inl (cA 2, 3340, .inr (.inl (fun _ => 0))))] [.ref h0, .int a0] (fun (w : va_W) (r : Option Value) => (a0.toInt64 < 1 ∧ w = [(h1, .inl (cA 2, 334, .inr (.inl (vp_updL (vp_updL (fun _ => 0) 0 1) 4 100)))), (h2, .inl (cA 2, 334, .inr (.inl (fun _ => 0)))), (h3, .inl (cA 2, 3340, .inr (.inl (fun _ => 0)))), (h0, .inr (12, [.ref h1, .ref h2, .ref h4, .ref h5, .ref h6, .ref h3, .int 0, .int 1, .long 0, .long 0, .ref h7, .ref h8, .ref h9, .int 0, .int 0, .int 0, .int 0, .int 0, .int (-1), .int 0, .int 0, .ref h10, .ref h11, .ref h12, .int 0]))] ∧ r = some (.long 0)) ∨ (¬ a0.toInt64 < 1 ∧ 400 < a0.toInt64 ∧ w = [(h1, .inl (cA 2, 334, .inr (.inl (vp_updL (vp_updL (fun _ => 0) 0 1) 4 100)))), (h2, .inl (cA 2, 334, .inr (.inl (fun _ => 0)))), (h3, .inl (cA 2, 3340, .inr (.inl (fun _ => 0)))), (h0, .inr (12, [.ref h1, .ref h2, .ref h4, .ref h5, .ref h6, .ref h3, .int 0, .int 1, .long 0, .long 0, .ref h7, .ref h8, .ref h9, .int 0, .int 0, .int 0, .int 0, .int 0, .int (-1), .int 0, .int 0, .ref h10, .ref h11, .ref h12, .int 0]))] ∧ r = some (.long 0)) ∨ (∃ (f_16 : Nat → Int64), ¬ a0.toInt64 < 1 ∧ ¬ 400 < a0.toInt64 ∧ w = [(h2, .inl (cA 2, 334, .inr (.inl (jj_cpy (vp_updL (vp_updL (fun _ => 0) 0 1) 4 100) (fun _ => 0) 334)))), (h3, .inl (cA 2, 3340, .inr (.inl f_16))), (h0, .inr (12, [.ref h1, .ref h2, .ref h4, .ref h5, .ref h6, .ref h3, .int 1, .int 0, .long 0, .long 0, .ref h7, .ref h8, .ref h9, .int 0, .int 0, .int 0, .int 0, .int 0, .int (-1), .int 0, .int 0, .ref h10, .ref h11, .ref h12, .int 0]))] ∧ r = some (.long 0))) jj_noX := by
  refine jj_start hl (by decide) jw_449 (jj_le rfl) ?_
  intro p e s m args below meth c A hargs hA C hex hmn
  refine jj_aload_n C dX11_passDays_0 rfl ?_
  refine jj_iload_n C dX11_passDays_1 rfl ?_
  refine jj_i2l C dX11_passDays_2 rfl ?_
  refine jj_lconst (v := 1) C dX11_passDays_3 (by decide) ?_
  refine jj_ldc2 (v := 400) C dX11_passDays_4 jw_443 ?_
  refine jq_callS (rest := [.ref h0]) C (ct_X11_in_6 hl D cA ak a0.toInt64) [] [0, 1, 2, 3] rfl rfl (by decide) (by decide) (by decide) jw_247 jw_248 jw_224 jw_246 jn_X11_in rfl (jj_le rfl) (jj_le rfl) (jj_le rfl) (jj_le rfl) (jj_le rfl) dX11_passDays_7 rfl (fun _ _ hX => hX.elim) (fun w1 r O_2 => ?_)
  rcases O_2 with ⟨c_3, rfl, rfl⟩ | ⟨c_4, c_5, rfl, rfl⟩ | ⟨c_6, c_7, rfl, rfl⟩
  · refine jj_apd rfl ?_
    refine jj_if_neF (tgt := 17) C dX11_passDays_10 (by decide) (by decide) ?_
    refine jj_iconst (v := 1) C dX11_passDays_13 (by decide) ?_
    refine jj_goto (tgt := 18) C dX11_passDays_14 (by decide) ?_
    refine jj_iconst (v := 1) C dX11_passDays_18 (by decide) ?_
    refine jq_callV (rest := []) C (ct_X11_fails_1 hl D cA ak h0 h1 h2 h4 h5 h6 h3 h7 h8 h9 h10 h11 h12) [0] [1, 2, 3] rfl rfl (by decide) (by decide) (by decide) 0 rfl rfl rfl jw_306 jw_307 jw_308 jw_224 jw_305 jn_X11_fails rfl (jj_le rfl) (jj_le rfl) (jj_le rfl) (jj_le rfl) (jj_le rfl) dX11_passDays_19 rfl (fun _ _ hX => hX.elim) (fun w1 r O_9 => ?_)
    obtain ⟨rfl, rfl⟩ := O_9
    refine jj_apd rfl ?_
    refine jj_if_eqF (tgt := 27) C dX11_passDays_22 (by decide) (by decide) ?_
    refine jj_lconst (v := 0) C dX11_passDays_25 (by decide) ?_
    exact jj_lret C (Or.inl ⟨c_3, rfl, rfl⟩) dX11_passDays_26 (jj_le rfl) (jj_le rfl)
  · refine jj_apd rfl ?_
    refine jj_if_neF (tgt := 17) C dX11_passDays_10 (by decide) (by decide) ?_
    refine jj_iconst (v := 1) C dX11_passDays_13 (by decide) ?_
    refine jj_goto (tgt := 18) C dX11_passDays_14 (by decide) ?_
    refine jj_iconst (v := 1) C dX11_passDays_18 (by decide) ?_
    refine jq_callV (rest := []) C (ct_X11_fails_1 hl D cA ak h0 h1 h2 h4 h5 h6 h3 h7 h8 h9 h10 h11 h12) [0] [1, 2, 3] rfl rfl (by decide) (by decide) (by decide) 0 rfl rfl rfl jw_306 jw_307 jw_308 jw_224 jw_305 jn_X11_fails rfl (jj_le rfl) (jj_le rfl) (jj_le rfl) (jj_le rfl) (jj_le rfl) dX11_passDays_19 rfl (fun _ _ hX => hX.elim) (fun w1 r O_11 => ?_)
    obtain ⟨rfl, rfl⟩ := O_11
    refine jj_apd rfl ?_
    refine jj_if_eqF (tgt := 27) C dX11_passDays_22 (by decide) (by decide) ?_
    refine jj_lconst (v := 0) C dX11_passDays_25 (by decide) ?_
    exact jj_lret C (Or.inr (Or.inl ⟨c_4, c_5, rfl, rfl⟩)) dX11_passDays_26 (jj_le rfl) (jj_le rfl)
  · refine jj_apd rfl ?_
    refine jj_if_neT (tgt := 17) C dX11_passDays_10 (by decide) (by decide) ?_
    refine jj_iconst (v := 0) C dX11_passDays_17 (by decide) ?_
    refine jj_iconst (v := 1) C dX11_passDays_18 (by decide) ?_
    refine jq_callV (rest := []) C (ct_X11_fails_2 hl D cA ak h0 h1 h2 h4 h5 h6 h3 h7 h8 h9 h10 h11 h12) [0] [1, 2, 3] rfl rfl (by decide) (by decide) (by decide) 0 rfl rfl rfl jw_306 jw_307 jw_308 jw_224 jw_305 jn_X11_fails rfl (jj_le rfl) (jj_le rfl) (jj_le rfl) (jj_le rfl) (jj_le rfl) dX11_passDays_19 rfl (fun _ _ hX => hX.elim) (fun w1 r O_13 => ?_)
    obtain ⟨rfl, rfl⟩ := O_13
    refine jj_apd rfl ?_
    refine jj_if_eqT (tgt := 27) C dX11_passDays_22 (by decide) (by decide) ?_
    refine jj_aload_n C dX11_passDays_27 rfl ?_
    refine jq_callV (rest := []) C (ct_X11_remember_1 hl D cA ak h0 h1 h2 h3 h4 h5 h6 h7 h8 h9 h10 h11 h12) [3, 0, 1, 2] [] rfl rfl (by decide) (by decide) (by decide) 0 rfl rfl rfl jw_337 jw_338 jw_339 jw_224 jw_336 jn_X11_remember rfl (jj_le rfl) (jj_le rfl) (jj_le rfl) (jj_le rfl) (jj_le rfl) dX11_passDays_28 rfl (fun _ _ hX => hX.elim) (fun w1 r O_15 => ?_)
    obtain ⟨f_16, rfl, rfl⟩ := O_15
    refine jj_apd rfl ?_
    refine jj_aload_n C dX11_passDays_31 rfl ?_
    refine jj_iload_n C dX11_passDays_32 rfl ?_
    refine jq_callV (rest := []) C (ct_X11_goDays_1 hl D cA ak h0 h1 h2 h4 h5 h6 h3 h7 h8 h9 h10 h11 h12 a0) [1, 0] [2, 3] rfl rfl (by decide) (by decide) (by decide) 0 rfl rfl rfl jw_445 jw_446 jw_447 jw_224 jw_444 jn_X11_goDays rfl (jj_le rfl) (jj_le rfl) (jj_le rfl) (jj_le rfl) (jj_le rfl) dX11_passDays_33 rfl (fun _ _ hX => hX.elim) (fun w1 r O_18 => ?_)
    obtain ⟨rfl, rfl⟩ := O_18
    refine jj_apd rfl ?_
    exact jj_lret C (Or.inr (Or.inr ⟨f_16, c_6, c_7, rfl, rfl⟩)) dX11_passDays_36 (jj_le rfl) (jj_le rfl)


set_option maxHeartbeats 4000000 in
set_option maxRecDepth 100000 in
theorem ct_X0_transferFault_1 {l : Launch} (hl : l.stackTraces = false) (D : va_G) (cA : Nat → ClassId) (ak : (Nat → Nat) × (Nat → Nat)) (h0 h1 h2 h3 h4 : Nat) (a0 : Int32) (a1 : Int32) (a2 : Int32) : jj_M l D cA ak yX0_transferFault (.code yX0_transferFault cX0_transferFault 4 (some .int)) 1 24 0 0 [(h0, .inr (2, [.int 1, .int 0, .int 0, .int 0, .int 100, .int 0, .int 0, .int 0, .int 0, .int 0, .ref h1, .ref h2, .ref h3, .ref h4]))] [.ref h0, .int a0, .int a1, .int a2] (fun (w : va_W) (r : Option Value) => (a0 < 0 ∧ w = [(h0, .inr (2, [.int 1, .int 0, .int 0, .int 0, .int 100, .int 0, .int 0, .int 0, .int 0, .int 0, .ref h1, .ref h2, .ref h3, .ref h4]))] ∧ r = some (.int 1)) ∨ (¬ a0 < 0 ∧ 1 ≤ a0 ∧ w = [(h0, .inr (2, [.int 1, .int 0, .int 0, .int 0, .int 100, .int 0, .int 0, .int 0, .int 0, .int 0, .ref h1, .ref h2, .ref h3, .ref h4]))] ∧ r = some (.int 1)) ∨ (¬ a0 < 0 ∧ ¬ 1 ≤ a0 ∧ a1 < 0 ∧ w = [(h0, .inr (2, [.int 1, .int 0, .int 0, .int 0, .int 100, .int 0, .int 0, .int 0, .int 0, .int 0, .ref h1, .ref h2, .ref h3, .ref h4]))] ∧ r = some (.int 1)) ∨ (¬ a0 < 0 ∧ ¬ 1 ≤ a0 ∧ ¬ a1 < 0 ∧ 1 ≤ a1 ∧ w = [(h0, .inr (2, [.int 1, .int 0, .int 0, .int 0, .int 100, .int 0, .int 0, .int 0, .int 0, .int 0, .ref h1, .ref h2, .ref h3, .ref h4]))] ∧ r = some (.int 1)) ∨ (¬ a0 < 0 ∧ ¬ 1 ≤ a0 ∧ ¬ a1 < 0 ∧ ¬ 1 ≤ a1 ∧ a0 = a1 ∧ w = [(h0, .inr (2, [.int 1, .int 0, .int 0, .int 0, .int 100, .int 0, .int 0, .int 0, .int 0, .int 0, .ref h1, .ref h2, .ref h3, .ref h4]))] ∧ r = some (.int 2)) ∨ (¬ a0 < 0 ∧ ¬ 1 ≤ a0 ∧ ¬ a1 < 0 ∧ ¬ 1 ≤ a1 ∧ ¬ a0 = a1 ∧ a2 < 1 ∧ w = [(h0, .inr (2, [.int 1, .int 0, .int 0, .int 0, .int 100, .int 0, .int 0, .int 0, .int 0, .int 0, .ref h1, .ref h2, .ref h3, .ref h4]))] ∧ r = some (.int 2)) ∨ (¬ a0 < 0 ∧ ¬ 1 ≤ a0 ∧ ¬ a1 < 0 ∧ ¬ 1 ≤ a1 ∧ ¬ a0 = a1 ∧ ¬ a2 < 1 ∧ a2 ≤ 99999999 ∧ (a2.toInt64 + 0) ≤ 0 ∧ w = [(h0, .inr (2, [.int 1, .int 0, .int 0, .int 0, .int 100, .int 0, .int 0, .int 0, .int 0, .int 0, .ref h1, .ref h2, .ref h3, .ref h4]))] ∧ r = some (.int 0)) ∨ (¬ a0 < 0 ∧ ¬ 1 ≤ a0 ∧ ¬ a1 < 0 ∧ ¬ 1 ≤ a1 ∧ ¬ a0 = a1 ∧ ¬ a2 < 1 ∧ a2 ≤ 99999999 ∧ ¬ (a2.toInt64 + 0) ≤ 0 ∧ w = [(h0, .inr (2, [.int 1, .int 0, .int 0, .int 0, .int 100, .int 0, .int 0, .int 0, .int 0, .int 0, .ref h1, .ref h2, .ref h3, .ref h4]))] ∧ r = some (.int 3)) ∨ (¬ a0 < 0 ∧ ¬ 1 ≤ a0 ∧ ¬ a1 < 0 ∧ ¬ 1 ≤ a1 ∧ ¬ a0 = a1 ∧ ¬ a2 < 1 ∧ ¬ a2 ≤ 99999999 ∧ w = [(h0, .inr (2, [.int 1, .int 0, .int 0, .int 0, .int 100, .int 0, .int 0, .int 0, .int 0, .int 0, .ref h1, .ref h2, .ref h3, .ref h4]))] ∧ r = some (.int 2))) jj_noX := by
  refine jj_start hl (by decide) jw_450 (jj_le rfl) ?_
  intro p e s m args below meth c A hargs hA C hex hmn
  refine jj_aload_n C dX0_transferFault_0 rfl ?_
  refine jj_iload_n C dX0_transferFault_1 rfl ?_
  refine jq_callV (rest := []) C (ct_X0_hasInvestor_1 hl D cA ak h0 h1 h2 h3 h4 a0) [0] [] rfl rfl (by decide) (by decide) (by decide) 0 rfl rfl rfl jw_257 jw_258 jw_259 jw_57 jw_256 jn_X0_hasInvestor rfl (jj_le rfl) (jj_le rfl) (jj_le rfl) (jj_le rfl) (jj_le rfl) dX0_transferFault_2 rfl (fun _ _ hX => hX.elim) (fun w1 r O_2 => ?_)
  rcases O_2 with ⟨c_3, rfl, rfl⟩ | ⟨c_4, c_5, rfl, rfl⟩ | ⟨c_6, c_7, rfl, rfl⟩
  · refine jj_apd rfl ?_
    refine jj_if_eqT (tgt := 16) C dX0_transferFault_5 (by decide) (by decide) ?_
    refine jj_iconst (v := 1) C dX0_transferFault_16 (by decide) ?_
    exact jj_iret C (Or.inl ⟨c_3, rfl, rfl⟩) dX0_transferFault_17 (jj_le rfl) (jj_le rfl)
  · refine jj_apd rfl ?_
    refine jj_if_eqT (tgt := 16) C dX0_transferFault_5 (by decide) (by decide) ?_
    refine jj_iconst (v := 1) C dX0_transferFault_16 (by decide) ?_
    exact jj_iret C (Or.inr (Or.inl ⟨c_4, c_5, rfl, rfl⟩)) dX0_transferFault_17 (jj_le rfl) (jj_le rfl)
  · refine jj_apd rfl ?_
    refine jj_if_eqF (tgt := 16) C dX0_transferFault_5 (by decide) (by decide) ?_
    refine jj_aload_n C dX0_transferFault_8 rfl ?_
    refine jj_iload_n C dX0_transferFault_9 rfl ?_
    refine jq_callV (rest := []) C (ct_X0_hasInvestor_1 hl D cA ak h0 h1 h2 h3 h4 a1) [0] [] rfl rfl (by decide) (by decide) (by decide) 0 rfl rfl rfl jw_257 jw_258 jw_259 jw_57 jw_256 jn_X0_hasInvestor rfl (jj_le rfl) (jj_le rfl) (jj_le rfl) (jj_le rfl) (jj_le rfl) dX0_transferFault_10 rfl (fun _ _ hX => hX.elim) (fun w1 r O_9 => ?_)
    rcases O_9 with ⟨c_10, rfl, rfl⟩ | ⟨c_11, c_12, rfl, rfl⟩ | ⟨c_13, c_14, rfl, rfl⟩
    · refine jj_apd rfl ?_
      refine jj_if_neF (tgt := 18) C dX0_transferFault_13 (by decide) (by decide) ?_
      refine jj_iconst (v := 1) C dX0_transferFault_16 (by decide) ?_
      exact jj_iret C (Or.inr (Or.inr (Or.inl ⟨c_6, c_7, c_10, rfl, rfl⟩))) dX0_transferFault_17 (jj_le rfl) (jj_le rfl)
    · refine jj_apd rfl ?_
      refine jj_if_neF (tgt := 18) C dX0_transferFault_13 (by decide) (by decide) ?_
      refine jj_iconst (v := 1) C dX0_transferFault_16 (by decide) ?_
      exact jj_iret C (Or.inr (Or.inr (Or.inr (Or.inl ⟨c_6, c_7, c_11, c_12, rfl, rfl⟩)))) dX0_transferFault_17 (jj_le rfl) (jj_le rfl)
    · refine jj_apd rfl ?_
      refine jj_if_neT (tgt := 18) C dX0_transferFault_13 (by decide) (by decide) ?_
      refine jj_iload_n C dX0_transferFault_18 rfl ?_
      refine jj_iload_n C dX0_transferFault_19 rfl ?_
      refine jj_icmp_eq (tgt := 34) C dX0_transferFault_20 (by decide) (fun c_15 => ?_) (fun c_15 => ?_)
      · refine jj_iconst (v := 2) C dX0_transferFault_34 (by decide) ?_
        exact jj_iret C (Or.inr (Or.inr (Or.inr (Or.inr (Or.inl ⟨c_6, c_7, c_13, c_14, c_15, rfl, rfl⟩))))) dX0_transferFault_35 (jj_le rfl) (jj_le rfl)
      · refine jj_iload_n C dX0_transferFault_23 rfl ?_
        refine jj_iconst (v := 1) C dX0_transferFault_24 (by decide) ?_
        refine jj_icmp_lt (tgt := 34) C dX0_transferFault_25 (by decide) (fun c_16 => ?_) (fun c_16 => ?_)
        · refine jj_iconst (v := 2) C dX0_transferFault_34 (by decide) ?_
          exact jj_iret C (Or.inr (Or.inr (Or.inr (Or.inr (Or.inr (Or.inl ⟨c_6, c_7, c_13, c_14, c_15, c_16, rfl, rfl⟩)))))) dX0_transferFault_35 (jj_le rfl) (jj_le rfl)
        · refine jj_iload_n C dX0_transferFault_28 rfl ?_
          refine jj_ldc (v := 99999999) C dX0_transferFault_29 jw_351 ?_
          refine jj_icmp_le (tgt := 36) C dX0_transferFault_31 (by decide) (fun c_17 => ?_) (fun c_17 => ?_)
          · refine jj_aload_n C dX0_transferFault_36 rfl ?_
            refine jj_iload_n C dX0_transferFault_37 rfl ?_
            refine jq_callV (rest := []) C (ct_X0_unitsHeldBy_1 hl D cA ak h0 h1 h2 h3 h4 a0) [0] [] rfl rfl (by decide) (by decide) (by decide) 0 rfl rfl rfl jw_358 jw_359 jw_360 jw_57 jw_357 jn_X0_unitsHeldBy rfl (jj_le rfl) (jj_le rfl) (jj_le rfl) (jj_le rfl) (jj_le rfl) dX0_transferFault_38 rfl (fun _ _ hX => hX.elim) (fun w1 r O_19 => ?_)
            obtain ⟨rfl, rfl⟩ := O_19
            refine jj_apd rfl ?_
            refine jj_iload_n C dX0_transferFault_41 rfl ?_
            refine jj_i2l C dX0_transferFault_42 rfl ?_
            refine jj_aload_n C dX0_transferFault_43 rfl ?_
            refine jj_iload_n C dX0_transferFault_44 rfl ?_
            refine jq_callV (rest := [.long a2.toInt64, .long 0]) C (ct_X0_unitsWaitingOf_1 hl D cA ak h0 h1 h2 h3 h4 a0) [0] [] rfl rfl (by decide) (by decide) (by decide) 0 rfl rfl rfl jw_353 jw_354 jw_355 jw_57 jw_352 jn_X0_unitsWaitingOf rfl (jj_le rfl) (jj_le rfl) (jj_le rfl) (jj_le rfl) (jj_le rfl) dX0_transferFault_45 rfl (fun _ _ hX => hX.elim) (fun w1 r O_21 => ?_)
            obtain ⟨rfl, rfl⟩ := O_21
            refine jj_apd rfl ?_
            refine jj_ladd C dX0_transferFault_48 rfl ?_
            refine jj_lcmp_ge (tgt := 55) C dX0_transferFault_49 dX0_transferFault_50 (by decide) (fun c_22 => ?_) (fun c_22 => ?_)
            · refine jj_aload_n C dX0_transferFault_55 rfl ?_
              refine jj_get C jk_2 8 (by decide) jw_67 0 rfl rfl dX0_transferFault_56 ?_
              refine jj_bipush (v := 40) C dX0_transferFault_59 (by decide) ?_
              refine jj_icmp_ltT (tgt := 78) C dX0_transferFault_61 (by decide) (by decide) ?_
              refine jj_iconst (v := 0) C dX0_transferFault_78 (by decide) ?_
              exact jj_iret C (Or.inr (Or.inr (Or.inr (Or.inr (Or.inr (Or.inr (Or.inl ⟨c_6, c_7, c_13, c_14, c_15, c_16, c_17, c_22, rfl, rfl⟩))))))) dX0_transferFault_79 (jj_le rfl) (jj_le rfl)
            · refine jj_iconst (v := 3) C dX0_transferFault_53 (by decide) ?_
              exact jj_iret C (Or.inr (Or.inr (Or.inr (Or.inr (Or.inr (Or.inr (Or.inr (Or.inl ⟨c_6, c_7, c_13, c_14, c_15, c_16, c_17, c_22, rfl, rfl⟩)))))))) dX0_transferFault_54 (jj_le rfl) (jj_le rfl)
          · refine jj_iconst (v := 2) C dX0_transferFault_34 (by decide) ?_
            exact jj_iret C (Or.inr (Or.inr (Or.inr (Or.inr (Or.inr (Or.inr (Or.inr (Or.inr ⟨c_6, c_7, c_13, c_14, c_15, c_16, c_17, rfl, rfl⟩)))))))) dX0_transferFault_35 (jj_le rfl) (jj_le rfl)


set_option maxHeartbeats 4000000 in
set_option maxRecDepth 100000 in
theorem ct_X0_moveUnits_1 {l : Launch} (hl : l.stackTraces = false) (D : va_G) (cA : Nat → ClassId) (ak : (Nat → Nat) × (Nat → Nat)) (h0 h1 h2 h3 h4 : Nat) (a0 : Int32) (a1 : Int32) (b2 : Int64) : jj_M l D cA ak yX0_moveUnits (.code yX0_moveUnits cX0_moveUnits 12 none) 0 0 0 0 [(h0, .inr (2, [.int 1, .int 0, .int 0, .int 0, .int 100, .int 0, .int 0, .int 0, .int 0, .int 0, .ref h1, .ref h2, .ref h3, .ref h4]))] [.ref h0, .int a0, .int a1, .long b2] (fun (w : va_W) (r : Option Value) => (w = [(h0, .inr (2, [.int 1, .int 0, .int 0, .int 0, .int 100, .int 0, .int 0, .int 0, .int 0, .int 0, .ref h1, .ref h2, .ref h3, .ref h4]))] ∧ r = none)) jj_noX := by
  refine jj_start hl (by decide) jw_455 (jj_le rfl) ?_
  intro p e s m args below meth c A hargs hA C hex hmn
  refine jj_lload_n C dX0_moveUnits_0 rfl ?_
  refine jj_lstore C dX0_moveUnits_1 (by decide) rfl ?_
  refine jj_aload_n C dX0_moveUnits_3 rfl ?_
  refine jj_get C jk_2 8 (by decide) jw_67 0 rfl rfl dX0_moveUnits_4 ?_
  refine jj_istore C dX0_moveUnits_7 (by decide) rfl ?_
  refine jj_iconst (v := 0) C dX0_moveUnits_9 (by decide) ?_
  refine jj_istore C dX0_moveUnits_10 (by decide) rfl ?_
  refine jj_iload C dX0_moveUnits_12 rfl ?_
  refine jj_iload C dX0_moveUnits_14 rfl ?_
  refine jj_icmp_geT (tgt := 98) C dX0_moveUnits_16 (by decide) (by decide) ?_
  exact jj_vret C ⟨rfl, rfl⟩ dX0_moveUnits_98 (jj_le rfl) (jj_le rfl)


set_option maxHeartbeats 4000000 in
set_option maxRecDepth 100000 in
theorem ct_X10_transfer_1 {l : Launch} (hl : l.stackTraces = false) (D : va_G) (cA : Nat → ClassId) (ak : (Nat → Nat) × (Nat → Nat)) (h0 h1 h2 h3 h4 h5 h6 h7 h8 h9 h10 : Nat) (a0 : Int32) (a1 : Int32) (a2 : Int32) : jj_M l D cA ak yX10_transfer (.code yX10_transfer cX10_transfer 4 (some .long)) 7 102 63 408 [(h0, .inr (11, [.ref h4, .int 0, .int (-1), .ref h1, .ref h5, .ref h6, .ref h2, .int 0, .int 0, .ref h7])), (h1, .inr (2, [.int 1, .int 0, .int 0, .int 0, .int 100, .int 0, .int 0, .int 0, .int 0, .int 0, .ref h3, .ref h8, .ref h9, .ref h10])), (h2, .inl (cA 5, 10, .inr (.inr (.inr (.inr (fun _ => none)))))), (h3, .inl (cA 2, 6, .inr (.inl (fun _ => 0))))] [.ref h0, .int a0, .int a1, .int a2] (fun (w : va_W) (r : Option Value) => (¬ a0 < 0 ∧ ¬ 1 ≤ a0 ∧ ¬ a1 < 0 ∧ ¬ 1 ≤ a1 ∧ ¬ a0 = a1 ∧ ¬ a2 < 1 ∧ a2 ≤ 99999999 ∧ (a2.toInt64 + 0) ≤ 0 ∧ r = some (.long 0))) (fun (E : String) (w : va_W) => (E = "java/lang/IndexOutOfBoundsException" ∧ a0 < 0) ∨ (E = "java/lang/IndexOutOfBoundsException" ∧ ¬ a0 < 0 ∧ 1 ≤ a0) ∨ (E = "java/lang/IndexOutOfBoundsException" ∧ ¬ a0 < 0 ∧ ¬ 1 ≤ a0 ∧ a1 < 0) ∨ (E = "java/lang/IndexOutOfBoundsException" ∧ ¬ a0 < 0 ∧ ¬ 1 ≤ a0 ∧ ¬ a1 < 0 ∧ 1 ≤ a1) ∨ (E = "java/lang/IllegalArgumentException" ∧ ¬ a0 < 0 ∧ ¬ 1 ≤ a0 ∧ ¬ a1 < 0 ∧ ¬ 1 ≤ a1 ∧ a0 = a1) ∨ (E = "java/lang/IllegalArgumentException" ∧ ¬ a0 < 0 ∧ ¬ 1 ≤ a0 ∧ ¬ a1 < 0 ∧ ¬ 1 ≤ a1 ∧ ¬ a0 = a1 ∧ a2 < 1) ∨ (E = "java/lang/IllegalStateException" ∧ ¬ a0 < 0 ∧ ¬ 1 ≤ a0 ∧ ¬ a1 < 0 ∧ ¬ 1 ≤ a1 ∧ ¬ a0 = a1 ∧ ¬ a2 < 1 ∧ a2 ≤ 99999999 ∧ ¬ (a2.toInt64 + 0) ≤ 0) ∨ (E = "java/lang/IllegalArgumentException" ∧ ¬ a0 < 0 ∧ ¬ 1 ≤ a0 ∧ ¬ a1 < 0 ∧ ¬ 1 ≤ a1 ∧ ¬ a0 = a1 ∧ ¬ a2 < 1 ∧ ¬ a2 ≤ 99999999)) := by
  refine jj_start hl (by decide) jw_461 (jj_le rfl) ?_
  intro p e s m args below meth c A hargs hA C hex hmn
  refine jj_aload_n C dX10_transfer_0 rfl ?_
  refine jj_get C jk_11 3 (by decide) jw_135 0 rfl rfl dX10_transfer_1 ?_
  refine jj_iload_n C dX10_transfer_4 rfl ?_
  refine jj_iload_n C dX10_transfer_5 rfl ?_
  refine jj_iload_n C dX10_transfer_6 rfl ?_
  refine jq_callV (rest := []) C (ct_X0_transferFault_1 hl D cA ak h1 h3 h8 h9 h10 a0 a1 a2) [1] [0, 2, 3] rfl rfl (by decide) (by decide) (by decide) 0 rfl rfl rfl jw_451 jw_452 jw_453 jw_57 jw_450 jn_X0_transferFault rfl (jj_le rfl) (jj_le rfl) (jj_le rfl) (jj_le rfl) (jj_le rfl) dX10_transfer_7 rfl (fun _ _ hX => hX.elim) (fun w1 r O_2 => ?_)
  rcases O_2 with ⟨c_3, rfl, rfl⟩ | ⟨c_4, c_5, rfl, rfl⟩ | ⟨c_6, c_7, c_8, rfl, rfl⟩ | ⟨c_9, c_10, c_11, c_12, rfl, rfl⟩ | ⟨c_13, c_14, c_15, c_16, c_17, rfl, rfl⟩ | ⟨c_18, c_19, c_20, c_21, c_22, c_23, rfl, rfl⟩ | ⟨c_24, c_25, c_26, c_27, c_28, c_29, c_30, c_31, rfl, rfl⟩ | ⟨c_32, c_33, c_34, c_35, c_36, c_37, c_38, c_39, rfl, rfl⟩ | ⟨c_40, c_41, c_42, c_43, c_44, c_45, c_46, rfl, rfl⟩
  · refine jj_apd rfl ?_
    refine jq_callS (rest := []) C (ct_X10_refuse_1 hl D cA ak) [] [0, 1, 2, 3] rfl rfl (by decide) (by decide) (by decide) jw_270 jw_272 jw_271 jw_269 jn_X10_refuse rfl (jj_le rfl) (jj_le rfl) (jj_le rfl) (jj_le rfl) (jj_le rfl) dX10_transfer_10 rfl (fun E w1 X_47 => ?_) (fun w1 r O_48 => ?_)
    · obtain rfl := X_47
      refine jj_leftY ?_
      exact jj_out C hex (Or.inl ⟨rfl, c_3⟩) (jj_le rfl) (jj_le rfl)
    · exact O_48.elim
  · refine jj_apd rfl ?_
    refine jq_callS (rest := []) C (ct_X10_refuse_1 hl D cA ak) [] [0, 1, 2, 3] rfl rfl (by decide) (by decide) (by decide) jw_270 jw_272 jw_271 jw_269 jn_X10_refuse rfl (jj_le rfl) (jj_le rfl) (jj_le rfl) (jj_le rfl) (jj_le rfl) dX10_transfer_10 rfl (fun E w1 X_49 => ?_) (fun w1 r O_50 => ?_)
    · obtain rfl := X_49
      refine jj_leftY ?_
      exact jj_out C hex (Or.inr (Or.inl ⟨rfl, c_4, c_5⟩)) (jj_le rfl) (jj_le rfl)
    · exact O_50.elim
  · refine jj_apd rfl ?_
    refine jq_callS (rest := []) C (ct_X10_refuse_1 hl D cA ak) [] [0, 1, 2, 3] rfl rfl (by decide) (by decide) (by decide) jw_270 jw_272 jw_271 jw_269 jn_X10_refuse rfl (jj_le rfl) (jj_le rfl) (jj_le rfl) (jj_le rfl) (jj_le rfl) dX10_transfer_10 rfl (fun E w1 X_51 => ?_) (fun w1 r O_52 => ?_)
    · obtain rfl := X_51
      refine jj_leftY ?_
      exact jj_out C hex (Or.inr (Or.inr (Or.inl ⟨rfl, c_6, c_7, c_8⟩))) (jj_le rfl) (jj_le rfl)
    · exact O_52.elim
  · refine jj_apd rfl ?_
    refine jq_callS (rest := []) C (ct_X10_refuse_1 hl D cA ak) [] [0, 1, 2, 3] rfl rfl (by decide) (by decide) (by decide) jw_270 jw_272 jw_271 jw_269 jn_X10_refuse rfl (jj_le rfl) (jj_le rfl) (jj_le rfl) (jj_le rfl) (jj_le rfl) dX10_transfer_10 rfl (fun E w1 X_53 => ?_) (fun w1 r O_54 => ?_)
    · obtain rfl := X_53
      refine jj_leftY ?_
      exact jj_out C hex (Or.inr (Or.inr (Or.inr (Or.inl ⟨rfl, c_9, c_10, c_11, c_12⟩)))) (jj_le rfl) (jj_le rfl)
    · exact O_54.elim
  · refine jj_apd rfl ?_
    refine jq_callS (rest := []) C (ct_X10_refuse_2 hl D cA ak) [] [0, 1, 2, 3] rfl rfl (by decide) (by decide) (by decide) jw_270 jw_272 jw_271 jw_269 jn_X10_refuse rfl (jj_le rfl) (jj_le rfl) (jj_le rfl) (jj_le rfl) (jj_le rfl) dX10_transfer_10 rfl (fun E w1 X_55 => ?_) (fun w1 r O_56 => ?_)
    · obtain rfl := X_55
      refine jj_leftY ?_
      exact jj_out C hex (Or.inr (Or.inr (Or.inr (Or.inr (Or.inl ⟨rfl, c_13, c_14, c_15, c_16, c_17⟩))))) (jj_le rfl) (jj_le rfl)
    · exact O_56.elim
  · refine jj_apd rfl ?_
    refine jq_callS (rest := []) C (ct_X10_refuse_2 hl D cA ak) [] [0, 1, 2, 3] rfl rfl (by decide) (by decide) (by decide) jw_270 jw_272 jw_271 jw_269 jn_X10_refuse rfl (jj_le rfl) (jj_le rfl) (jj_le rfl) (jj_le rfl) (jj_le rfl) dX10_transfer_10 rfl (fun E w1 X_57 => ?_) (fun w1 r O_58 => ?_)
    · obtain rfl := X_57
      refine jj_leftY ?_
      exact jj_out C hex (Or.inr (Or.inr (Or.inr (Or.inr (Or.inr (Or.inl ⟨rfl, c_18, c_19, c_20, c_21, c_22, c_23⟩)))))) (jj_le rfl) (jj_le rfl)
    · exact O_58.elim
  · refine jj_apd rfl ?_
    refine jq_callS (rest := []) C (ct_X10_refuse_3 hl D cA ak) [] [0, 1, 2, 3] rfl rfl (by decide) (by decide) (by decide) jw_270 jw_272 jw_271 jw_269 jn_X10_refuse rfl (jj_le rfl) (jj_le rfl) (jj_le rfl) (jj_le rfl) (jj_le rfl) dX10_transfer_10 rfl (fun _ _ hX => hX.elim) (fun w1 r O_60 => ?_)
    obtain ⟨rfl, rfl⟩ := O_60
    refine jj_apd rfl ?_
    refine jj_aload_n C dX10_transfer_13 rfl ?_
    refine jq_callV (rest := []) C (ct_X10_remember_1 hl D cA ak h0 h1 h2 h3 h4 h5 h6 h7 h8 h9 h10) [0, 3, 1, 2] [] rfl rfl (by decide) (by decide) (by decide) 0 rfl rfl rfl jw_280 jw_281 jw_282 jw_271 jw_279 jn_X10_remember rfl (jj_le rfl) (jj_le rfl) (jj_le rfl) (jj_le rfl) (jj_le rfl) dX10_transfer_14 rfl (fun _ _ hX => hX.elim) (fun w1 r O_62 => ?_)
    obtain ⟨q_63, q_64, q_65, q_66, q_67, q_68, f_69, c_70, rfl, rfl⟩ := O_62
    refine jj_apd rfl ?_
    refine jj_aload_n C dX10_transfer_17 rfl ?_
    refine jj_get C jk_11 3 (by decide) jw_135 0 rfl rfl dX10_transfer_18 ?_
    refine jj_iload_n C dX10_transfer_21 rfl ?_
    refine jj_iload_n C dX10_transfer_22 rfl ?_
    refine jj_iload_n C dX10_transfer_23 rfl ?_
    refine jj_i2l C dX10_transfer_24 rfl ?_
    refine jq_callV (rest := []) C (ct_X0_moveUnits_1 hl D cA ak h1 h3 h8 h9 h10 a0 a1 a2.toInt64) [5] [0, 1, 2, 3, 4, 6, 7] rfl rfl (by decide) (by decide) (by decide) 0 rfl rfl rfl jw_456 jw_457 jw_458 jw_57 jw_455 jn_X0_moveUnits rfl (jj_le rfl) (jj_le rfl) (jj_le rfl) (jj_le rfl) (jj_le rfl) dX10_transfer_25 rfl (fun _ _ hX => hX.elim) (fun w1 r O_72 => ?_)
    obtain ⟨rfl, rfl⟩ := O_72
    refine jj_apd rfl ?_
    refine jj_aload_n C dX10_transfer_28 rfl ?_
    refine jj_get C jk_11 3 (by decide) jw_135 0 rfl rfl dX10_transfer_29 ?_
    refine jj_iload_n C dX10_transfer_32 rfl ?_
    refine jq_callV (rest := []) C (ct_X0_unitsHeldBy_1 hl D cA ak h1 h3 h8 h9 h10 a0) [7] [0, 1, 2, 3, 4, 5, 6] rfl rfl (by decide) (by decide) (by decide) 0 rfl rfl rfl jw_460 jw_359 jw_360 jw_57 jw_357 jn_X0_unitsHeldBy rfl (jj_le rfl) (jj_le rfl) (jj_le rfl) (jj_le rfl) (jj_le rfl) dX10_transfer_33 rfl (fun _ _ hX => hX.elim) (fun w1 r O_74 => ?_)
    obtain ⟨rfl, rfl⟩ := O_74
    refine jj_apd rfl ?_
    exact jj_lret C ⟨c_24, c_25, c_26, c_27, c_28, c_29, c_30, c_31, rfl⟩ dX10_transfer_36 (jj_le rfl) (jj_le rfl)
  · refine jj_apd rfl ?_
    refine jq_callS (rest := []) C (ct_X10_refuse_4 hl D cA ak) [] [0, 1, 2, 3] rfl rfl (by decide) (by decide) (by decide) jw_270 jw_272 jw_271 jw_269 jn_X10_refuse rfl (jj_le rfl) (jj_le rfl) (jj_le rfl) (jj_le rfl) (jj_le rfl) dX10_transfer_10 rfl (fun E w1 X_75 => ?_) (fun w1 r O_76 => ?_)
    · obtain rfl := X_75
      refine jj_leftY ?_
      exact jj_out C hex (Or.inr (Or.inr (Or.inr (Or.inr (Or.inr (Or.inr (Or.inl ⟨rfl, c_32, c_33, c_34, c_35, c_36, c_37, c_38, c_39⟩))))))) (jj_le rfl) (jj_le rfl)
    · exact O_76.elim
  · refine jj_apd rfl ?_
    refine jq_callS (rest := []) C (ct_X10_refuse_2 hl D cA ak) [] [0, 1, 2, 3] rfl rfl (by decide) (by decide) (by decide) jw_270 jw_272 jw_271 jw_269 jn_X10_refuse rfl (jj_le rfl) (jj_le rfl) (jj_le rfl) (jj_le rfl) (jj_le rfl) dX10_transfer_10 rfl (fun E w1 X_77 => ?_) (fun w1 r O_78 => ?_)
    · obtain rfl := X_77
      refine jj_leftY ?_
      exact jj_out C hex (Or.inr (Or.inr (Or.inr (Or.inr (Or.inr (Or.inr (Or.inr ⟨rfl, c_40, c_41, c_42, c_43, c_44, c_45, c_46⟩))))))) (jj_le rfl) (jj_le rfl)
    · exact O_78.elim


set_option maxHeartbeats 4000000 in
set_option maxRecDepth 100000 in
theorem ct_X11_cannotMove_1 {l : Launch} (hl : l.stackTraces = false) (D : va_G) (cA : Nat → ClassId) (ak : (Nat → Nat) × (Nat → Nat)) (h0 h1 h2 h3 h4 h5 h6 h7 h8 h9 h10 h11 h12 : Nat) (a0 : Int32) (a1 : Int32) : jj_M l D cA ak yX11_cannotMove (.code yX11_cannotMove cX11_cannotMove 3 (some .boolean)) 1 24 0 0 [(h0, .inr (12, [.ref h1, .ref h2, .ref h3, .ref h4, .ref h5, .ref h6, .int 0, .int 0, .long 0, .long 0, .ref h7, .ref h8, .ref h9, .int 0, .int 0, .int 0, .int 0, .int 0, .int (-1), .int 0, .int 0, .ref h10, .ref h11, .ref h12, .int 0])), (h1, .inl (cA 2, 334, .inr (.inl (vp_updL (vp_updL (fun _ => 0) 0 1) 4 100))))] [.ref h0, .int a0, .int a1] (fun (w : va_W) (r : Option Value) => (0 < (a1.toInt64 + 0) ∧ w = [(h0, .inr (12, [.ref h1, .ref h2, .ref h3, .ref h4, .ref h5, .ref h6, .int 0, .int 0, .long 0, .long 0, .ref h7, .ref h8, .ref h9, .int 0, .int 0, .int 0, .int 0, .int 0, .int (-1), .int 0, .int 0, .ref h10, .ref h11, .ref h12, .int 0])), (h1, .inl (cA 2, 334, .inr (.inl (vp_updL (vp_updL (fun _ => 0) 0 1) 4 100))))] ∧ r = some (.int 1)) ∨ (¬ 0 < (a1.toInt64 + 0) ∧ w = [(h0, .inr (12, [.ref h1, .ref h2, .ref h3, .ref h4, .ref h5, .ref h6, .int 0, .int 0, .long 0, .long 0, .ref h7, .ref h8, .ref h9, .int 0, .int 0, .int 0, .int 0, .int 0, .int (-1), .int 0, .int 0, .ref h10, .ref h11, .ref h12, .int 0])), (h1, .inl (cA 2, 334, .inr (.inl (vp_updL (vp_updL (fun _ => 0) 0 1) 4 100))))] ∧ r = some (.int 0))) jj_noX := by
  refine jj_start hl (by decide) jw_463 (jj_le rfl) ?_
  intro p e s m args below meth c A hargs hA C hex hmn
  refine jj_aload_n C dX11_cannotMove_0 rfl ?_
  refine jj_iload_n C dX11_cannotMove_1 rfl ?_
  refine jq_callV (rest := []) C (ct_X11_unitsBy_1 hl D cA ak h0 h1 h2 h3 h4 h5 h6 h7 h8 h9 h10 h11 h12 a0) [0, 1] [] rfl rfl (by decide) (by decide) (by decide) 0 rfl rfl rfl jw_381 jw_382 jw_383 jw_224 jw_380 jn_X11_unitsBy rfl (jj_le rfl) (jj_le rfl) (jj_le rfl) (jj_le rfl) (jj_le rfl) dX11_cannotMove_2 rfl (fun _ _ hX => hX.elim) (fun w1 r O_2 => ?_)
  obtain ⟨rfl, rfl⟩ := O_2
  refine jj_apd rfl ?_
  refine jj_iload_n C dX11_cannotMove_5 rfl ?_
  refine jj_i2l C dX11_cannotMove_6 rfl ?_
  refine jj_aload_n C dX11_cannotMove_7 rfl ?_
  refine jj_iload_n C dX11_cannotMove_8 rfl ?_
  refine jq_callV (rest := [.long a1.toInt64, .long 0]) C (ct_X11_waitingOf_1 hl D cA ak h0 h1 h2 h3 h4 h5 h6 h7 h8 h9 h10 h11 h12 a0) [0, 1] [] rfl rfl (by decide) (by decide) (by decide) 0 rfl rfl rfl jw_376 jw_377 jw_378 jw_224 jw_375 jn_X11_waitingOf rfl (jj_le rfl) (jj_le rfl) (jj_le rfl) (jj_le rfl) (jj_le rfl) dX11_cannotMove_9 rfl (fun _ _ hX => hX.elim) (fun w1 r O_4 => ?_)
  obtain ⟨rfl, rfl⟩ := O_4
  refine jj_apd rfl ?_
  refine jj_ladd C dX11_cannotMove_12 rfl ?_
  refine jj_lcmp_lt (tgt := 41) C dX11_cannotMove_13 dX11_cannotMove_14 (by decide) (fun c_5 => ?_) (fun c_5 => ?_)
  · refine jj_iconst (v := 1) C dX11_cannotMove_41 (by decide) ?_
    refine jj_goto (tgt := 46) C dX11_cannotMove_42 (by decide) ?_
    exact jj_zret C rfl (Or.inl ⟨c_5, rfl, rfl⟩) dX11_cannotMove_46 (jj_le rfl) (jj_le rfl)
  · refine jj_aload_n C dX11_cannotMove_17 rfl ?_
    refine jj_get C jk_12 0 (by decide) jw_181 0 rfl rfl dX11_cannotMove_18 ?_
    refine jj_bipush (v := 7) C dX11_cannotMove_21 (by decide) ?_
    refine jj_lald (v := 0) C 1 rfl (vp_in_iff.mpr (by decide)) rfl dX11_cannotMove_23 ?_
    refine jj_ldc2 (v := 40) C dX11_cannotMove_24 jw_462 ?_
    refine jj_lcmp_neT (tgt := 45) C dX11_cannotMove_27 dX11_cannotMove_28 (by decide) (by decide) ?_
    refine jj_iconst (v := 0) C dX11_cannotMove_45 (by decide) ?_
    exact jj_zret C rfl (Or.inr ⟨c_5, rfl, rfl⟩) dX11_cannotMove_46 (jj_le rfl) (jj_le rfl)


set_option maxHeartbeats 4000000 in
set_option maxRecDepth 100000 in
theorem ct_X11_unitsBy_2 {l : Launch} (hl : l.stackTraces = false) (D : va_G) (cA : Nat → ClassId) (ak : (Nat → Nat) × (Nat → Nat)) (h0 h1 h2 h3 h4 h5 h6 h7 h8 h9 h10 h11 h12 : Nat) (a0 : Int32) : jj_M l D cA ak yX11_unitsBy (.code yX11_unitsBy cX11_unitsBy 5 (some .long)) 0 0 0 0 [(h0, .inr (12, [.ref h1, .ref h2, .ref h3, .ref h4, .ref h5, .ref h6, .int 1, .int 0, .long 0, .long 0, .ref h7, .ref h8, .ref h9, .int 0, .int 0, .int 0, .int 0, .int 0, .int (-1), .int 0, .int 0, .ref h10, .ref h11, .ref h12, .int 0])), (h1, .inl (cA 2, 334, .inr (.inl (vp_updL (vp_updL (fun _ => 0) 0 1) 4 100))))] [.ref h0, .int a0] (fun (w : va_W) (r : Option Value) => (w = [(h0, .inr (12, [.ref h1, .ref h2, .ref h3, .ref h4, .ref h5, .ref h6, .int 1, .int 0, .long 0, .long 0, .ref h7, .ref h8, .ref h9, .int 0, .int 0, .int 0, .int 0, .int 0, .int (-1), .int 0, .int 0, .ref h10, .ref h11, .ref h12, .int 0])), (h1, .inl (cA 2, 334, .inr (.inl (vp_updL (vp_updL (fun _ => 0) 0 1) 4 100))))] ∧ r = some (.long 0))) jj_noX := by
  refine jj_start hl (by decide) jw_380 (jj_le rfl) ?_
  intro p e s m args below meth c A hargs hA C hex hmn
  refine jj_lconst (v := 0) C dX11_unitsBy_0 (by decide) ?_
  refine jj_lstore_n C dX11_unitsBy_1 (by decide) rfl ?_
  refine jj_iconst (v := 0) C dX11_unitsBy_2 (by decide) ?_
  refine jj_istore C dX11_unitsBy_3 (by decide) rfl ?_
  refine jj_iload C dX11_unitsBy_5 rfl ?_
  refine jj_i2l (v := 0) C dX11_unitsBy_7 (by decide) ?_
  refine jj_aload_n C dX11_unitsBy_8 rfl ?_
  refine jj_get C jk_12 0 (by decide) jw_181 0 rfl rfl dX11_unitsBy_9 ?_
  refine jj_bipush (v := 7) C dX11_unitsBy_12 (by decide) ?_
  refine jj_lald (v := 0) C 1 rfl (vp_in_iff.mpr (by decide)) rfl dX11_unitsBy_14 ?_
  refine jj_lcmp_geT (tgt := 58) C dX11_unitsBy_15 dX11_unitsBy_16 (by decide) (by decide) ?_
  refine jj_lload_n C dX11_unitsBy_58 rfl ?_
  exact jj_lret C ⟨rfl, rfl⟩ dX11_unitsBy_59 (jj_le rfl) (jj_le rfl)


set_option maxHeartbeats 4000000 in
set_option maxRecDepth 100000 in
theorem ct_X11_transfer_1 {l : Launch} (hl : l.stackTraces = false) (D : va_G) (cA : Nat → ClassId) (ak : (Nat → Nat) × (Nat → Nat)) (h0 h1 h2 h3 h4 h5 h6 h7 h8 h9 h10 h11 h12 : Nat) (a0 : Int32) (a1 : Int32) (a2 : Int32) : jj_M l D cA ak yX11_transfer (.code yX11_transfer cX11_transfer 11 (some .long)) 2 46 0 0 [(h0, .inr (12, [.ref h1, .ref h2, .ref h4, .ref h5, .ref h6, .ref h3, .int 0, .int 0, .long 0, .long 0, .ref h7, .ref h8, .ref h9, .int 0, .int 0, .int 0, .int 0, .int 0, .int (-1), .int 0, .int 0, .ref h10, .ref h11, .ref h12, .int 0])), (h1, .inl (cA 2, 334, .inr (.inl (vp_updL (vp_updL (fun _ => 0) 0 1) 4 100)))), (h2, .inl (cA 2, 334, .inr (.inl (fun _ => 0)))), (h3, .inl (cA 2, 3340, .inr (.inl (fun _ => 0))))] [.ref h0, .int a0, .int a1, .int a2] (fun (w : va_W) (r : Option Value) => (a0.toInt64 < 0 ∧ w = [(h2, .inl (cA 2, 334, .inr (.inl (fun _ => 0)))), (h3, .inl (cA 2, 3340, .inr (.inl (fun _ => 0)))), (h1, .inl (cA 2, 334, .inr (.inl (vp_updL (vp_updL (fun _ => 0) 0 1) 4 100)))), (h0, .inr (12, [.ref h1, .ref h2, .ref h4, .ref h5, .ref h6, .ref h3, .int 0, .int 1, .long 0, .long 0, .ref h7, .ref h8, .ref h9, .int 0, .int 0, .int 0, .int 0, .int 0, .int (-1), .int 0, .int 0, .ref h10, .ref h11, .ref h12, .int 0]))] ∧ r = some (.long 0)) ∨ (¬ a0.toInt64 < 0 ∧ 0 < a0.toInt64 ∧ w = [(h2, .inl (cA 2, 334, .inr (.inl (fun _ => 0)))), (h3, .inl (cA 2, 3340, .inr (.inl (fun _ => 0)))), (h1, .inl (cA 2, 334, .inr (.inl (vp_updL (vp_updL (fun _ => 0) 0 1) 4 100)))), (h0, .inr (12, [.ref h1, .ref h2, .ref h4, .ref h5, .ref h6, .ref h3, .int 0, .int 1, .long 0, .long 0, .ref h7, .ref h8, .ref h9, .int 0, .int 0, .int 0, .int 0, .int 0, .int (-1), .int 0, .int 0, .ref h10, .ref h11, .ref h12, .int 0]))] ∧ r = some (.long 0)) ∨ (¬ a0.toInt64 < 0 ∧ ¬ 0 < a0.toInt64 ∧ a1.toInt64 < 0 ∧ w = [(h2, .inl (cA 2, 334, .inr (.inl (fun _ => 0)))), (h3, .inl (cA 2, 3340, .inr (.inl (fun _ => 0)))), (h1, .inl (cA 2, 334, .inr (.inl (vp_updL (vp_updL (fun _ => 0) 0 1) 4 100)))), (h0, .inr (12, [.ref h1, .ref h2, .ref h4, .ref h5, .ref h6, .ref h3, .int 0, .int 1, .long 0, .long 0, .ref h7, .ref h8, .ref h9, .int 0, .int 0, .int 0, .int 0, .int 0, .int (-1), .int 0, .int 0, .ref h10, .ref h11, .ref h12, .int 0]))] ∧ r = some (.long 0)) ∨ (¬ a0.toInt64 < 0 ∧ ¬ 0 < a0.toInt64 ∧ ¬ a1.toInt64 < 0 ∧ 0 < a1.toInt64 ∧ w = [(h2, .inl (cA 2, 334, .inr (.inl (fun _ => 0)))), (h3, .inl (cA 2, 3340, .inr (.inl (fun _ => 0)))), (h1, .inl (cA 2, 334, .inr (.inl (vp_updL (vp_updL (fun _ => 0) 0 1) 4 100)))), (h0, .inr (12, [.ref h1, .ref h2, .ref h4, .ref h5, .ref h6, .ref h3, .int 0, .int 1, .long 0, .long 0, .ref h7, .ref h8, .ref h9, .int 0, .int 0, .int 0, .int 0, .int 0, .int (-1), .int 0, .int 0, .ref h10, .ref h11, .ref h12, .int 0]))] ∧ r = some (.long 0)) ∨ (¬ a0.toInt64 < 0 ∧ ¬ 0 < a0.toInt64 ∧ ¬ a1.toInt64 < 0 ∧ ¬ 0 < a1.toInt64 ∧ a0 = a1 ∧ w = [(h2, .inl (cA 2, 334, .inr (.inl (fun _ => 0)))), (h3, .inl (cA 2, 3340, .inr (.inl (fun _ => 0)))), (h1, .inl (cA 2, 334, .inr (.inl (vp_updL (vp_updL (fun _ => 0) 0 1) 4 100)))), (h0, .inr (12, [.ref h1, .ref h2, .ref h4, .ref h5, .ref h6, .ref h3, .int 0, .int 2, .long 0, .long 0, .ref h7, .ref h8, .ref h9, .int 0, .int 0, .int 0, .int 0, .int 0, .int (-1), .int 0, .int 0, .ref h10, .ref h11, .ref h12, .int 0]))] ∧ r = some (.long 0)) ∨ (¬ a0.toInt64 < 0 ∧ ¬ 0 < a0.toInt64 ∧ ¬ a1.toInt64 < 0 ∧ ¬ 0 < a1.toInt64 ∧ ¬ a0 = a1 ∧ a2.toInt64 < 1 ∧ w = [(h2, .inl (cA 2, 334, .inr (.inl (fun _ => 0)))), (h3, .inl (cA 2, 3340, .inr (.inl (fun _ => 0)))), (h1, .inl (cA 2, 334, .inr (.inl (vp_updL (vp_updL (fun _ => 0) 0 1) 4 100)))), (h0, .inr (12, [.ref h1, .ref h2, .ref h4, .ref h5, .ref h6, .ref h3, .int 0, .int 2, .long 0, .long 0, .ref h7, .ref h8, .ref h9, .int 0, .int 0, .int 0, .int 0, .int 0, .int (-1), .int 0, .int 0, .ref h10, .ref h11, .ref h12, .int 0]))] ∧ r = some (.long 0)) ∨ (¬ a0.toInt64 < 0 ∧ ¬ 0 < a0.toInt64 ∧ ¬ a1.toInt64 < 0 ∧ ¬ 0 < a1.toInt64 ∧ ¬ a0 = a1 ∧ ¬ a2.toInt64 < 1 ∧ 99999999 < a2.toInt64 ∧ w = [(h2, .inl (cA 2, 334, .inr (.inl (fun _ => 0)))), (h3, .inl (cA 2, 3340, .inr (.inl (fun _ => 0)))), (h1, .inl (cA 2, 334, .inr (.inl (vp_updL (vp_updL (fun _ => 0) 0 1) 4 100)))), (h0, .inr (12, [.ref h1, .ref h2, .ref h4, .ref h5, .ref h6, .ref h3, .int 0, .int 2, .long 0, .long 0, .ref h7, .ref h8, .ref h9, .int 0, .int 0, .int 0, .int 0, .int 0, .int (-1), .int 0, .int 0, .ref h10, .ref h11, .ref h12, .int 0]))] ∧ r = some (.long 0)) ∨ (¬ a0.toInt64 < 0 ∧ ¬ 0 < a0.toInt64 ∧ ¬ a1.toInt64 < 0 ∧ ¬ 0 < a1.toInt64 ∧ ¬ a0 = a1 ∧ ¬ a2.toInt64 < 1 ∧ ¬ 99999999 < a2.toInt64 ∧ 0 < (a2.toInt64 + 0) ∧ w = [(h2, .inl (cA 2, 334, .inr (.inl (fun _ => 0)))), (h3, .inl (cA 2, 3340, .inr (.inl (fun _ => 0)))), (h1, .inl (cA 2, 334, .inr (.inl (vp_updL (vp_updL (fun _ => 0) 0 1) 4 100)))), (h0, .inr (12, [.ref h1, .ref h2, .ref h4, .ref h5, .ref h6, .ref h3, .int 0, .int 3, .long 0, .long 0, .ref h7, .ref h8, .ref h9, .int 0, .int 0, .int 0, .int 0, .int 0, .int (-1), .int 0, .int 0, .ref h10, .ref h11, .ref h12, .int 0]))] ∧ r = some (.long 0)) ∨ (∃ (f_51 : Nat → Int64), ¬ a0.toInt64 < 0 ∧ ¬ 0 < a0.toInt64 ∧ ¬ a1.toInt64 < 0 ∧ ¬ 0 < a1.toInt64 ∧ ¬ a0 = a1 ∧ ¬ a2.toInt64 < 1 ∧ ¬ 99999999 < a2.toInt64 ∧ ¬ 0 < (a2.toInt64 + 0) ∧ w = [(h2, .inl (cA 2, 334, .inr (.inl (jj_cpy (vp_updL (vp_updL (fun _ => 0) 0 1) 4 100) (fun _ => 0) 334)))), (h3, .inl (cA 2, 3340, .inr (.inl f_51))), (h0, .inr (12, [.ref h1, .ref h2, .ref h4, .ref h5, .ref h6, .ref h3, .int 1, .int 0, .long 0, .long 0, .ref h7, .ref h8, .ref h9, .int 0, .int 0, .int 0, .int 0, .int 0, .int (-1), .int 0, .int 0, .ref h10, .ref h11, .ref h12, .int 0])), (h1, .inl (cA 2, 334, .inr (.inl (vp_updL (vp_updL (fun _ => 0) 0 1) 4 100))))] ∧ r = some (.long 0))) jj_noX := by
  refine jj_start hl (by decide) jw_468 (jj_le rfl) ?_
  intro p e s m args below meth c A hargs hA C hex hmn
  refine jj_aload_n C dX11_transfer_0 rfl ?_
  refine jj_aload_n C dX11_transfer_1 rfl ?_
  refine jj_iload_n C dX11_transfer_2 rfl ?_
  refine jq_callV (rest := [.ref h0]) C (ct_X11_isInvestor_1 hl D cA ak h0 h1 h2 h4 h5 h6 h3 h7 h8 h9 h10 h11 h12 a0) [0, 1] [2, 3] rfl rfl (by decide) (by decide) (by decide) 0 rfl rfl rfl jw_301 jw_302 jw_303 jw_224 jw_300 jn_X11_isInvestor rfl (jj_le rfl) (jj_le rfl) (jj_le rfl) (jj_le rfl) (jj_le rfl) dX11_transfer_3 rfl (fun _ _ hX => hX.elim) (fun w1 r O_2 => ?_)
  rcases O_2 with ⟨c_3, rfl, rfl⟩ | ⟨c_4, c_5, rfl, rfl⟩ | ⟨c_6, c_7, rfl, rfl⟩
  · refine jj_apd rfl ?_
    refine jj_if_eqT (tgt := 17) C dX11_transfer_6 (by decide) (by decide) ?_
    refine jj_iconst (v := 1) C dX11_transfer_17 (by decide) ?_
    refine jj_goto (tgt := 22) C dX11_transfer_18 (by decide) ?_
    refine jj_iconst (v := 1) C dX11_transfer_22 (by decide) ?_
    refine jq_callV (rest := []) C (ct_X11_fails_1 hl D cA ak h0 h1 h2 h4 h5 h6 h3 h7 h8 h9 h10 h11 h12) [2] [0, 1, 3] rfl rfl (by decide) (by decide) (by decide) 0 rfl rfl rfl jw_306 jw_307 jw_308 jw_224 jw_305 jn_X11_fails rfl (jj_le rfl) (jj_le rfl) (jj_le rfl) (jj_le rfl) (jj_le rfl) dX11_transfer_23 rfl (fun _ _ hX => hX.elim) (fun w1 r O_9 => ?_)
    obtain ⟨rfl, rfl⟩ := O_9
    refine jj_apd rfl ?_
    refine jj_if_neT (tgt := 68) C dX11_transfer_26 (by decide) (by decide) ?_
    refine jj_lconst (v := 0) C dX11_transfer_68 (by decide) ?_
    exact jj_lret C (Or.inl ⟨c_3, rfl, rfl⟩) dX11_transfer_69 (jj_le rfl) (jj_le rfl)
  · refine jj_apd rfl ?_
    refine jj_if_eqT (tgt := 17) C dX11_transfer_6 (by decide) (by decide) ?_
    refine jj_iconst (v := 1) C dX11_transfer_17 (by decide) ?_
    refine jj_goto (tgt := 22) C dX11_transfer_18 (by decide) ?_
    refine jj_iconst (v := 1) C dX11_transfer_22 (by decide) ?_
    refine jq_callV (rest := []) C (ct_X11_fails_1 hl D cA ak h0 h1 h2 h4 h5 h6 h3 h7 h8 h9 h10 h11 h12) [2] [0, 1, 3] rfl rfl (by decide) (by decide) (by decide) 0 rfl rfl rfl jw_306 jw_307 jw_308 jw_224 jw_305 jn_X11_fails rfl (jj_le rfl) (jj_le rfl) (jj_le rfl) (jj_le rfl) (jj_le rfl) dX11_transfer_23 rfl (fun _ _ hX => hX.elim) (fun w1 r O_11 => ?_)
    obtain ⟨rfl, rfl⟩ := O_11
    refine jj_apd rfl ?_
    refine jj_if_neT (tgt := 68) C dX11_transfer_26 (by decide) (by decide) ?_
    refine jj_lconst (v := 0) C dX11_transfer_68 (by decide) ?_
    exact jj_lret C (Or.inr (Or.inl ⟨c_4, c_5, rfl, rfl⟩)) dX11_transfer_69 (jj_le rfl) (jj_le rfl)
  · refine jj_apd rfl ?_
    refine jj_if_eqF (tgt := 17) C dX11_transfer_6 (by decide) (by decide) ?_
    refine jj_aload_n C dX11_transfer_9 rfl ?_
    refine jj_iload_n C dX11_transfer_10 rfl ?_
    refine jq_callV (rest := [.ref h0]) C (ct_X11_isInvestor_1 hl D cA ak h0 h1 h2 h4 h5 h6 h3 h7 h8 h9 h10 h11 h12 a1) [2, 3] [0, 1] rfl rfl (by decide) (by decide) (by decide) 0 rfl rfl rfl jw_301 jw_302 jw_303 jw_224 jw_300 jn_X11_isInvestor rfl (jj_le rfl) (jj_le rfl) (jj_le rfl) (jj_le rfl) (jj_le rfl) dX11_transfer_11 rfl (fun _ _ hX => hX.elim) (fun w1 r O_13 => ?_)
    rcases O_13 with ⟨c_14, rfl, rfl⟩ | ⟨c_15, c_16, rfl, rfl⟩ | ⟨c_17, c_18, rfl, rfl⟩
    · refine jj_apd rfl ?_
      refine jj_if_neF (tgt := 21) C dX11_transfer_14 (by decide) (by decide) ?_
      refine jj_iconst (v := 1) C dX11_transfer_17 (by decide) ?_
      refine jj_goto (tgt := 22) C dX11_transfer_18 (by decide) ?_
      refine jj_iconst (v := 1) C dX11_transfer_22 (by decide) ?_
      refine jq_callV (rest := []) C (ct_X11_fails_1 hl D cA ak h0 h1 h2 h4 h5 h6 h3 h7 h8 h9 h10 h11 h12) [2] [0, 1, 3] rfl rfl (by decide) (by decide) (by decide) 0 rfl rfl rfl jw_306 jw_307 jw_308 jw_224 jw_305 jn_X11_fails rfl (jj_le rfl) (jj_le rfl) (jj_le rfl) (jj_le rfl) (jj_le rfl) dX11_transfer_23 rfl (fun _ _ hX => hX.elim) (fun w1 r O_20 => ?_)
      obtain ⟨rfl, rfl⟩ := O_20
      refine jj_apd rfl ?_
      refine jj_if_neT (tgt := 68) C dX11_transfer_26 (by decide) (by decide) ?_
      refine jj_lconst (v := 0) C dX11_transfer_68 (by decide) ?_
      exact jj_lret C (Or.inr (Or.inr (Or.inl ⟨c_6, c_7, c_14, rfl, rfl⟩))) dX11_transfer_69 (jj_le rfl) (jj_le rfl)
    · refine jj_apd rfl ?_
      refine jj_if_neF (tgt := 21) C dX11_transfer_14 (by decide) (by decide) ?_
      refine jj_iconst (v := 1) C dX11_transfer_17 (by decide) ?_
      refine jj_goto (tgt := 22) C dX11_transfer_18 (by decide) ?_
      refine jj_iconst (v := 1) C dX11_transfer_22 (by decide) ?_
      refine jq_callV (rest := []) C (ct_X11_fails_1 hl D cA ak h0 h1 h2 h4 h5 h6 h3 h7 h8 h9 h10 h11 h12) [2] [0, 1, 3] rfl rfl (by decide) (by decide) (by decide) 0 rfl rfl rfl jw_306 jw_307 jw_308 jw_224 jw_305 jn_X11_fails rfl (jj_le rfl) (jj_le rfl) (jj_le rfl) (jj_le rfl) (jj_le rfl) dX11_transfer_23 rfl (fun _ _ hX => hX.elim) (fun w1 r O_22 => ?_)
      obtain ⟨rfl, rfl⟩ := O_22
      refine jj_apd rfl ?_
      refine jj_if_neT (tgt := 68) C dX11_transfer_26 (by decide) (by decide) ?_
      refine jj_lconst (v := 0) C dX11_transfer_68 (by decide) ?_
      exact jj_lret C (Or.inr (Or.inr (Or.inr (Or.inl ⟨c_6, c_7, c_15, c_16, rfl, rfl⟩)))) dX11_transfer_69 (jj_le rfl) (jj_le rfl)
    · refine jj_apd rfl ?_
      refine jj_if_neT (tgt := 21) C dX11_transfer_14 (by decide) (by decide) ?_
      refine jj_iconst (v := 0) C dX11_transfer_21 (by decide) ?_
      refine jj_iconst (v := 1) C dX11_transfer_22 (by decide) ?_
      refine jq_callV (rest := []) C (ct_X11_fails_2 hl D cA ak h0 h1 h2 h4 h5 h6 h3 h7 h8 h9 h10 h11 h12) [2] [0, 1, 3] rfl rfl (by decide) (by decide) (by decide) 0 rfl rfl rfl jw_306 jw_307 jw_308 jw_224 jw_305 jn_X11_fails rfl (jj_le rfl) (jj_le rfl) (jj_le rfl) (jj_le rfl) (jj_le rfl) dX11_transfer_23 rfl (fun _ _ hX => hX.elim) (fun w1 r O_24 => ?_)
      obtain ⟨rfl, rfl⟩ := O_24
      refine jj_apd rfl ?_
      refine jj_if_neF (tgt := 68) C dX11_transfer_26 (by decide) (by decide) ?_
      refine jj_aload_n C dX11_transfer_29 rfl ?_
      refine jj_iload_n C dX11_transfer_30 rfl ?_
      refine jj_iload_n C dX11_transfer_31 rfl ?_
      refine jj_icmp_eq (tgt := 42) C dX11_transfer_32 (by decide) (fun c_25 => ?_) (fun c_25 => ?_)
      · refine jj_iconst (v := 1) C dX11_transfer_42 (by decide) ?_
        refine jj_goto (tgt := 47) C dX11_transfer_43 (by decide) ?_
        refine jj_iconst (v := 2) C dX11_transfer_47 (by decide) ?_
        refine jq_callV (rest := []) C (ct_X11_fails_3 hl D cA ak h0 h1 h2 h4 h5 h6 h3 h7 h8 h9 h10 h11 h12) [3] [0, 1, 2] rfl rfl (by decide) (by decide) (by decide) 0 rfl rfl rfl jw_306 jw_307 jw_308 jw_224 jw_305 jn_X11_fails rfl (jj_le rfl) (jj_le rfl) (jj_le rfl) (jj_le rfl) (jj_le rfl) dX11_transfer_48 rfl (fun _ _ hX => hX.elim) (fun w1 r O_27 => ?_)
        obtain ⟨rfl, rfl⟩ := O_27
        refine jj_apd rfl ?_
        refine jj_if_neT (tgt := 68) C dX11_transfer_51 (by decide) (by decide) ?_
        refine jj_lconst (v := 0) C dX11_transfer_68 (by decide) ?_
        exact jj_lret C (Or.inr (Or.inr (Or.inr (Or.inr (Or.inl ⟨c_6, c_7, c_17, c_18, c_25, rfl, rfl⟩))))) dX11_transfer_69 (jj_le rfl) (jj_le rfl)
      · refine jj_iload_n C dX11_transfer_35 rfl ?_
        refine jq_callS (rest := [.ref h0]) C (ct_X11_isUnits_1 hl D cA ak a2) [] [0, 1, 2, 3] rfl rfl (by decide) (by decide) (by decide) jw_372 jw_373 jw_224 jw_371 jn_X11_isUnits rfl (jj_le rfl) (jj_le rfl) (jj_le rfl) (jj_le rfl) (jj_le rfl) dX11_transfer_36 rfl (fun _ _ hX => hX.elim) (fun w1 r O_29 => ?_)
        rcases O_29 with ⟨c_30, rfl, rfl⟩ | ⟨c_31, c_32, rfl, rfl⟩ | ⟨c_33, c_34, rfl, rfl⟩
        · refine jj_apd rfl ?_
          refine jj_if_neF (tgt := 46) C dX11_transfer_39 (by decide) (by decide) ?_
          refine jj_iconst (v := 1) C dX11_transfer_42 (by decide) ?_
          refine jj_goto (tgt := 47) C dX11_transfer_43 (by decide) ?_
          refine jj_iconst (v := 2) C dX11_transfer_47 (by decide) ?_
          refine jq_callV (rest := []) C (ct_X11_fails_3 hl D cA ak h0 h1 h2 h4 h5 h6 h3 h7 h8 h9 h10 h11 h12) [3] [0, 1, 2] rfl rfl (by decide) (by decide) (by decide) 0 rfl rfl rfl jw_306 jw_307 jw_308 jw_224 jw_305 jn_X11_fails rfl (jj_le rfl) (jj_le rfl) (jj_le rfl) (jj_le rfl) (jj_le rfl) dX11_transfer_48 rfl (fun _ _ hX => hX.elim) (fun w1 r O_36 => ?_)
          obtain ⟨rfl, rfl⟩ := O_36
          refine jj_apd rfl ?_
          refine jj_if_neT (tgt := 68) C dX11_transfer_51 (by decide) (by decide) ?_
          refine jj_lconst (v := 0) C dX11_transfer_68 (by decide) ?_
          exact jj_lret C (Or.inr (Or.inr (Or.inr (Or.inr (Or.inr (Or.inl ⟨c_6, c_7, c_17, c_18, c_25, c_30, rfl, rfl⟩)))))) dX11_transfer_69 (jj_le rfl) (jj_le rfl)
        · refine jj_apd rfl ?_
          refine jj_if_neF (tgt := 46) C dX11_transfer_39 (by decide) (by decide) ?_
          refine jj_iconst (v := 1) C dX11_transfer_42 (by decide) ?_
          refine jj_goto (tgt := 47) C dX11_transfer_43 (by decide) ?_
          refine jj_iconst (v := 2) C dX11_transfer_47 (by decide) ?_
          refine jq_callV (rest := []) C (ct_X11_fails_3 hl D cA ak h0 h1 h2 h4 h5 h6 h3 h7 h8 h9 h10 h11 h12) [3] [0, 1, 2] rfl rfl (by decide) (by decide) (by decide) 0 rfl rfl rfl jw_306 jw_307 jw_308 jw_224 jw_305 jn_X11_fails rfl (jj_le rfl) (jj_le rfl) (jj_le rfl) (jj_le rfl) (jj_le rfl) dX11_transfer_48 rfl (fun _ _ hX => hX.elim) (fun w1 r O_38 => ?_)
          obtain ⟨rfl, rfl⟩ := O_38
          refine jj_apd rfl ?_
          refine jj_if_neT (tgt := 68) C dX11_transfer_51 (by decide) (by decide) ?_
          refine jj_lconst (v := 0) C dX11_transfer_68 (by decide) ?_
          exact jj_lret C (Or.inr (Or.inr (Or.inr (Or.inr (Or.inr (Or.inr (Or.inl ⟨c_6, c_7, c_17, c_18, c_25, c_31, c_32, rfl, rfl⟩))))))) dX11_transfer_69 (jj_le rfl) (jj_le rfl)
        · refine jj_apd rfl ?_
          refine jj_if_neT (tgt := 46) C dX11_transfer_39 (by decide) (by decide) ?_
          refine jj_iconst (v := 0) C dX11_transfer_46 (by decide) ?_
          refine jj_iconst (v := 2) C dX11_transfer_47 (by decide) ?_
          refine jq_callV (rest := []) C (ct_X11_fails_4 hl D cA ak h0 h1 h2 h4 h5 h6 h3 h7 h8 h9 h10 h11 h12) [3] [0, 1, 2] rfl rfl (by decide) (by decide) (by decide) 0 rfl rfl rfl jw_306 jw_307 jw_308 jw_224 jw_305 jn_X11_fails rfl (jj_le rfl) (jj_le rfl) (jj_le rfl) (jj_le rfl) (jj_le rfl) dX11_transfer_48 rfl (fun _ _ hX => hX.elim) (fun w1 r O_40 => ?_)
          obtain ⟨rfl, rfl⟩ := O_40
          refine jj_apd rfl ?_
          refine jj_if_neF (tgt := 68) C dX11_transfer_51 (by decide) (by decide) ?_
          refine jj_aload_n C dX11_transfer_54 rfl ?_
          refine jj_aload_n C dX11_transfer_55 rfl ?_
          refine jj_iload_n C dX11_transfer_56 rfl ?_
          refine jj_iload_n C dX11_transfer_57 rfl ?_
          refine jq_callV (rest := [.ref h0]) C (ct_X11_cannotMove_1 hl D cA ak h0 h1 h2 h4 h5 h6 h3 h7 h8 h9 h10 h11 h12 a0 a2) [3, 2] [0, 1] rfl rfl (by decide) (by decide) (by decide) 0 rfl rfl rfl jw_464 jw_465 jw_466 jw_224 jw_463 jn_X11_cannotMove rfl (jj_le rfl) (jj_le rfl) (jj_le rfl) (jj_le rfl) (jj_le rfl) dX11_transfer_58 rfl (fun _ _ hX => hX.elim) (fun w1 r O_42 => ?_)
          rcases O_42 with ⟨c_43, rfl, rfl⟩ | ⟨c_44, rfl, rfl⟩
          · refine jj_apd rfl ?_
            refine jj_iconst (v := 3) C dX11_transfer_61 (by decide) ?_
            refine jq_callV (rest := []) C (ct_X11_fails_6 hl D cA ak h0 h1 h2 h4 h5 h6 h3 h7 h8 h9 h10 h11 h12) [2] [0, 1, 3] rfl rfl (by decide) (by decide) (by decide) 0 rfl rfl rfl jw_306 jw_307 jw_308 jw_224 jw_305 jn_X11_fails rfl (jj_le rfl) (jj_le rfl) (jj_le rfl) (jj_le rfl) (jj_le rfl) dX11_transfer_62 rfl (fun _ _ hX => hX.elim) (fun w1 r O_46 => ?_)
            obtain ⟨rfl, rfl⟩ := O_46
            refine jj_apd rfl ?_
            refine jj_if_eqF (tgt := 70) C dX11_transfer_65 (by decide) (by decide) ?_
            refine jj_lconst (v := 0) C dX11_transfer_68 (by decide) ?_
            exact jj_lret C (Or.inr (Or.inr (Or.inr (Or.inr (Or.inr (Or.inr (Or.inr (Or.inl ⟨c_6, c_7, c_17, c_18, c_25, c_33, c_34, c_43, rfl, rfl⟩)))))))) dX11_transfer_69 (jj_le rfl) (jj_le rfl)
          · refine jj_apd rfl ?_
            refine jj_iconst (v := 3) C dX11_transfer_61 (by decide) ?_
            refine jq_callV (rest := []) C (ct_X11_fails_5 hl D cA ak h0 h1 h2 h4 h5 h6 h3 h7 h8 h9 h10 h11 h12) [2] [0, 1, 3] rfl rfl (by decide) (by decide) (by decide) 0 rfl rfl rfl jw_306 jw_307 jw_308 jw_224 jw_305 jn_X11_fails rfl (jj_le rfl) (jj_le rfl) (jj_le rfl) (jj_le rfl) (jj_le rfl) dX11_transfer_62 rfl (fun _ _ hX => hX.elim) (fun w1 r O_48 => ?_)
            obtain ⟨rfl, rfl⟩ := O_48
            refine jj_apd rfl ?_
            refine jj_if_eqT (tgt := 70) C dX11_transfer_65 (by decide) (by decide) ?_
            refine jj_aload_n C dX11_transfer_70 rfl ?_
            refine jq_callV (rest := []) C (ct_X11_remember_1 hl D cA ak h0 h1 h2 h3 h4 h5 h6 h7 h8 h9 h10 h11 h12) [3, 2, 0, 1] [] rfl rfl (by decide) (by decide) (by decide) 0 rfl rfl rfl jw_337 jw_338 jw_339 jw_224 jw_336 jn_X11_remember rfl (jj_le rfl) (jj_le rfl) (jj_le rfl) (jj_le rfl) (jj_le rfl) dX11_transfer_71 rfl (fun _ _ hX => hX.elim) (fun w1 r O_50 => ?_)
            obtain ⟨f_51, rfl, rfl⟩ := O_50
            refine jj_apd rfl ?_
            refine jj_iload_n C dX11_transfer_74 rfl ?_
            refine jj_i2l C dX11_transfer_75 rfl ?_
            refine jj_lstore C dX11_transfer_76 (by decide) rfl ?_
            refine jj_aload_n C dX11_transfer_78 rfl ?_
            refine jj_get C jk_12 0 (by decide) jw_181 1 rfl rfl dX11_transfer_79 ?_
            refine jj_bipush (v := 7) C dX11_transfer_82 (by decide) ?_
            refine jj_lald (v := 0) C 0 rfl (vp_in_iff.mpr (by decide)) rfl dX11_transfer_84 ?_
            refine jj_l2i (v := 0) C dX11_transfer_85 (by decide) ?_
            refine jj_istore C dX11_transfer_86 (by decide) rfl ?_
            refine jj_iconst (v := 0) C dX11_transfer_88 (by decide) ?_
            refine jj_istore C dX11_transfer_89 (by decide) rfl ?_
            refine jj_iload C dX11_transfer_91 rfl ?_
            refine jj_iload C dX11_transfer_93 rfl ?_
            refine jj_icmp_geT (tgt := 197) C dX11_transfer_95 (by decide) (by decide) ?_
            refine jj_aload_n C dX11_transfer_197 rfl ?_
            refine jj_iload_n C dX11_transfer_198 rfl ?_
            refine jq_callV (rest := []) C (ct_X11_unitsBy_2 hl D cA ak h0 h1 h2 h4 h5 h6 h3 h7 h8 h9 h10 h11 h12 a0) [1, 0] [2, 3] rfl rfl (by decide) (by decide) (by decide) 0 rfl rfl rfl jw_381 jw_382 jw_383 jw_224 jw_380 jn_X11_unitsBy rfl (jj_le rfl) (jj_le rfl) (jj_le rfl) (jj_le rfl) (jj_le rfl) dX11_transfer_199 rfl (fun _ _ hX => hX.elim) (fun w1 r O_53 => ?_)
            obtain ⟨rfl, rfl⟩ := O_53
            refine jj_apd rfl ?_
            exact jj_lret C (Or.inr (Or.inr (Or.inr (Or.inr (Or.inr (Or.inr (Or.inr (Or.inr ⟨f_51, c_6, c_7, c_17, c_18, c_25, c_33, c_34, c_44, rfl, rfl⟩)))))))) dX11_transfer_202 (jj_le rfl) (jj_le rfl)


set_option maxHeartbeats 4000000 in
set_option maxRecDepth 100000 in
theorem ct_X10_setGate_1 {l : Launch} (hl : l.stackTraces = false) (D : va_G) (cA : Nat → ClassId) (ak : (Nat → Nat) × (Nat → Nat)) (h0 h1 h2 h3 h4 h5 h6 h7 h8 h9 h10 : Nat) (a0 : Int32) : jj_M l D cA ak yX10_setGate (.code yX10_setGate cX10_setGate 3 (some .int)) 6 82 63 408 [(h0, .inr (11, [.ref h4, .int 0, .int (-1), .ref h1, .ref h5, .ref h6, .ref h2, .int 0, .int 0, .ref h7])), (h1, .inr (2, [.int 1, .int 0, .int 0, .int 0, .int 100, .int 0, .int 0, .int 0, .int 0, .int 0, .ref h3, .ref h8, .ref h9, .ref h10])), (h2, .inl (cA 5, 10, .inr (.inr (.inr (.inr (fun _ => none)))))), (h3, .inl (cA 2, 6, .inr (.inl (fun _ => 0))))] [.ref h0, .int a0] (fun (w : va_W) (r : Option Value) => (¬ a0 < 1 ∧ a0 ≤ 100 ∧ r = some (.int 100))) (fun (E : String) (w : va_W) => (E = "java/lang/IllegalArgumentException" ∧ a0 < 1) ∨ (E = "java/lang/IllegalArgumentException" ∧ ¬ a0 < 1 ∧ ¬ a0 ≤ 100)) := by
  refine jj_start hl (by decide) jw_470 (jj_le rfl) ?_
  intro p e s m args below meth c A hargs hA C hex hmn
  refine jj_iload_n C dX10_setGate_0 rfl ?_
  refine jj_iconst (v := 1) C dX10_setGate_1 (by decide) ?_
  refine jj_icmp_lt (tgt := 11) C dX10_setGate_2 (by decide) (fun c_1 => ?_) (fun c_1 => ?_)
  · exact jj_throw (k := 41) (text := "no such gate") C jt_RX10_75 jw_244 (by decide +kernel) dX10_setGate_11 dX10_setGate_14 dX10_setGate_15 dX10_setGate_17 dX10_setGate_20 hex (jj_le rfl) (jj_le rfl) (jj_le rfl) (jj_le rfl) (Or.inl ⟨rfl, c_1⟩) (jj_le rfl) (jj_le rfl)
  · refine jj_iload_n C dX10_setGate_5 rfl ?_
    refine jj_bipush (v := 100) C dX10_setGate_6 (by decide) ?_
    refine jj_icmp_le (tgt := 21) C dX10_setGate_8 (by decide) (fun c_2 => ?_) (fun c_2 => ?_)
    · refine jj_aload_n C dX10_setGate_21 rfl ?_
      refine jq_callV (rest := []) C (ct_X10_remember_1 hl D cA ak h0 h1 h2 h3 h4 h5 h6 h7 h8 h9 h10) [0, 1, 2, 3] [] rfl rfl (by decide) (by decide) (by decide) 0 rfl rfl rfl jw_280 jw_281 jw_282 jw_271 jw_279 jn_X10_remember rfl (jj_le rfl) (jj_le rfl) (jj_le rfl) (jj_le rfl) (jj_le rfl) dX10_setGate_22 rfl (fun _ _ hX => hX.elim) (fun w1 r O_4 => ?_)
      obtain ⟨q_5, q_6, q_7, q_8, q_9, q_10, f_11, c_12, rfl, rfl⟩ := O_4
      refine jj_apd rfl ?_
      refine jj_aload_n C dX10_setGate_25 rfl ?_
      refine jj_get C jk_11 3 (by decide) jw_135 0 rfl rfl dX10_setGate_26 ?_
      refine jj_get C jk_2 4 (by decide) jw_469 5 rfl rfl dX10_setGate_29 ?_
      refine jj_istore_n C dX10_setGate_32 (by decide) rfl ?_
      refine jj_aload_n C dX10_setGate_33 rfl ?_
      refine jj_get C jk_11 3 (by decide) jw_135 0 rfl rfl dX10_setGate_34 ?_
      refine jj_iload_n C dX10_setGate_37 rfl ?_
      refine jj_put C jk_2 4 (by decide) jw_469 rfl 5 rfl rfl rfl rfl rfl dX10_setGate_38 ?_
      refine jj_iload_n C dX10_setGate_41 rfl ?_
      exact jj_iret C ⟨c_1, c_2, rfl⟩ dX10_setGate_42 (jj_le rfl) (jj_le rfl)
    · exact jj_throw (k := 41) (text := "no such gate") C jt_RX10_75 jw_244 (by decide +kernel) dX10_setGate_11 dX10_setGate_14 dX10_setGate_15 dX10_setGate_17 dX10_setGate_20 hex (jj_le rfl) (jj_le rfl) (jj_le rfl) (jj_le rfl) (Or.inr ⟨rfl, c_1, c_2⟩) (jj_le rfl) (jj_le rfl)


set_option maxHeartbeats 4000000 in
set_option maxRecDepth 100000 in
theorem ct_X11_in_7 {l : Launch} (hl : l.stackTraces = false) (D : va_G) (cA : Nat → ClassId) (ak : (Nat → Nat) × (Nat → Nat)) (b0 : Int64) : jj_M l D cA ak yX11_in (.code yX11_in cX11_in 6 (some .boolean)) 0 0 0 0 [] [.long b0, .long 1, .long 100] (fun (w : va_W) (r : Option Value) => (b0 < 1 ∧ w = [] ∧ r = some (.int 0)) ∨ (¬ b0 < 1 ∧ 100 < b0 ∧ w = [] ∧ r = some (.int 0)) ∨ (¬ b0 < 1 ∧ ¬ 100 < b0 ∧ w = [] ∧ r = some (.int 1))) jj_noX := by
  refine jj_start hl (by decide) jw_246 (jj_le rfl) ?_
  intro p e s m args below meth c A hargs hA C hex hmn
  refine jj_lload_n C dX11_in_0 rfl ?_
  refine jj_lload_n C dX11_in_1 rfl ?_
  refine jj_lcmp_lt (tgt := 17) C dX11_in_2 dX11_in_3 (by decide) (fun c_1 => ?_) (fun c_1 => ?_)
  · refine jj_iconst (v := 0) C dX11_in_17 (by decide) ?_
    exact jj_zret C rfl (Or.inl ⟨c_1, rfl, rfl⟩) dX11_in_18 (jj_le rfl) (jj_le rfl)
  · refine jj_lload_n C dX11_in_6 rfl ?_
    refine jj_lload C dX11_in_7 rfl ?_
    refine jj_lcmp_gt (tgt := 17) C dX11_in_9 dX11_in_10 (by decide) (fun c_2 => ?_) (fun c_2 => ?_)
    · refine jj_iconst (v := 0) C dX11_in_17 (by decide) ?_
      exact jj_zret C rfl (Or.inr (Or.inl ⟨c_1, c_2, rfl, rfl⟩)) dX11_in_18 (jj_le rfl) (jj_le rfl)
    · refine jj_iconst (v := 1) C dX11_in_13 (by decide) ?_
      refine jj_goto (tgt := 18) C dX11_in_14 (by decide) ?_
      exact jj_zret C rfl (Or.inr (Or.inr ⟨c_1, c_2, rfl, rfl⟩)) dX11_in_18 (jj_le rfl) (jj_le rfl)


set_option maxHeartbeats 4000000 in
set_option maxRecDepth 100000 in
theorem ct_X11_setGate_1 {l : Launch} (hl : l.stackTraces = false) (D : va_G) (cA : Nat → ClassId) (ak : (Nat → Nat) × (Nat → Nat)) (h0 h1 h2 h3 h4 h5 h6 h7 h8 h9 h10 h11 h12 : Nat) (a0 : Int32) : jj_M l D cA ak yX11_setGate (.code yX11_setGate cX11_setGate 3 (some .int)) 2 42 0 0 [(h0, .inr (12, [.ref h1, .ref h2, .ref h4, .ref h5, .ref h6, .ref h3, .int 0, .int 0, .long 0, .long 0, .ref h7, .ref h8, .ref h9, .int 0, .int 0, .int 0, .int 0, .int 0, .int (-1), .int 0, .int 0, .ref h10, .ref h11, .ref h12, .int 0])), (h1, .inl (cA 2, 334, .inr (.inl (vp_updL (vp_updL (fun _ => 0) 0 1) 4 100)))), (h2, .inl (cA 2, 334, .inr (.inl (fun _ => 0)))), (h3, .inl (cA 2, 3340, .inr (.inl (fun _ => 0))))] [.ref h0, .int a0] (fun (w : va_W) (r : Option Value) => (a0.toInt64 < 1 ∧ w = [(h1, .inl (cA 2, 334, .inr (.inl (vp_updL (vp_updL (fun _ => 0) 0 1) 4 100)))), (h2, .inl (cA 2, 334, .inr (.inl (fun _ => 0)))), (h3, .inl (cA 2, 3340, .inr (.inl (fun _ => 0)))), (h0, .inr (12, [.ref h1, .ref h2, .ref h4, .ref h5, .ref h6, .ref h3, .int 0, .int 1, .long 0, .long 0, .ref h7, .ref h8, .ref h9, .int 0, .int 0, .int 0, .int 0, .int 0, .int (-1), .int 0, .int 0, .ref h10, .ref h11, .ref h12, .int 0]))] ∧ r = some (.int 0)) ∨ (¬ a0.toInt64 < 1 ∧ 100 < a0.toInt64 ∧ w = [(h1, .inl (cA 2, 334, .inr (.inl (vp_updL (vp_updL (fun _ => 0) 0 1) 4 100)))), (h2, .inl (cA 2, 334, .inr (.inl (fun _ => 0)))), (h3, .inl (cA 2, 3340, .inr (.inl (fun _ => 0)))), (h0, .inr (12, [.ref h1, .ref h2, .ref h4, .ref h5, .ref h6, .ref h3, .int 0, .int 1, .long 0, .long 0, .ref h7, .ref h8, .ref h9, .int 0, .int 0, .int 0, .int 0, .int 0, .int (-1), .int 0, .int 0, .ref h10, .ref h11, .ref h12, .int 0]))] ∧ r = some (.int 0)) ∨ (∃ (f_16 : Nat → Int64), ¬ a0.toInt64 < 1 ∧ ¬ 100 < a0.toInt64 ∧ w = [(h1, .inl (cA 2, 334, .inr (.inl (vp_updL (vp_updL (vp_updL (fun _ => 0) 0 1) 4 100) 4 a0.toInt64)))), (h0, .inr (12, [.ref h1, .ref h2, .ref h4, .ref h5, .ref h6, .ref h3, .int 1, .int 0, .long 0, .long 0, .ref h7, .ref h8, .ref h9, .int 0, .int 0, .int 0, .int 0, .int 0, .int (-1), .int 0, .int 0, .ref h10, .ref h11, .ref h12, .int 0])), (h2, .inl (cA 2, 334, .inr (.inl (jj_cpy (vp_updL (vp_updL (fun _ => 0) 0 1) 4 100) (fun _ => 0) 334)))), (h3, .inl (cA 2, 3340, .inr (.inl f_16)))] ∧ r = some (.int 100))) jj_noX := by
  refine jj_start hl (by decide) jw_471 (jj_le rfl) ?_
  intro p e s m args below meth c A hargs hA C hex hmn
  refine jj_aload_n C dX11_setGate_0 rfl ?_
  refine jj_iload_n C dX11_setGate_1 rfl ?_
  refine jj_i2l C dX11_setGate_2 rfl ?_
  refine jj_lconst (v := 1) C dX11_setGate_3 (by decide) ?_
  refine jj_ldc2 (v := 100) C dX11_setGate_4 jw_221 ?_
  refine jq_callS (rest := [.ref h0]) C (ct_X11_in_7 hl D cA ak a0.toInt64) [] [0, 1, 2, 3] rfl rfl (by decide) (by decide) (by decide) jw_247 jw_248 jw_224 jw_246 jn_X11_in rfl (jj_le rfl) (jj_le rfl) (jj_le rfl) (jj_le rfl) (jj_le rfl) dX11_setGate_7 rfl (fun _ _ hX => hX.elim) (fun w1 r O_2 => ?_)
  rcases O_2 with ⟨c_3, rfl, rfl⟩ | ⟨c_4, c_5, rfl, rfl⟩ | ⟨c_6, c_7, rfl, rfl⟩
  · refine jj_apd rfl ?_
    refine jj_if_neF (tgt := 17) C dX11_setGate_10 (by decide) (by decide) ?_
    refine jj_iconst (v := 1) C dX11_setGate_13 (by decide) ?_
    refine jj_goto (tgt := 18) C dX11_setGate_14 (by decide) ?_
    refine jj_iconst (v := 1) C dX11_setGate_18 (by decide) ?_
    refine jq_callV (rest := []) C (ct_X11_fails_1 hl D cA ak h0 h1 h2 h4 h5 h6 h3 h7 h8 h9 h10 h11 h12) [0] [1, 2, 3] rfl rfl (by decide) (by decide) (by decide) 0 rfl rfl rfl jw_306 jw_307 jw_308 jw_224 jw_305 jn_X11_fails rfl (jj_le rfl) (jj_le rfl) (jj_le rfl) (jj_le rfl) (jj_le rfl) dX11_setGate_19 rfl (fun _ _ hX => hX.elim) (fun w1 r O_9 => ?_)
    obtain ⟨rfl, rfl⟩ := O_9
    refine jj_apd rfl ?_
    refine jj_if_eqF (tgt := 27) C dX11_setGate_22 (by decide) (by decide) ?_
    refine jj_iconst (v := 0) C dX11_setGate_25 (by decide) ?_
    exact jj_iret C (Or.inl ⟨c_3, rfl, rfl⟩) dX11_setGate_26 (jj_le rfl) (jj_le rfl)
  · refine jj_apd rfl ?_
    refine jj_if_neF (tgt := 17) C dX11_setGate_10 (by decide) (by decide) ?_
    refine jj_iconst (v := 1) C dX11_setGate_13 (by decide) ?_
    refine jj_goto (tgt := 18) C dX11_setGate_14 (by decide) ?_
    refine jj_iconst (v := 1) C dX11_setGate_18 (by decide) ?_
    refine jq_callV (rest := []) C (ct_X11_fails_1 hl D cA ak h0 h1 h2 h4 h5 h6 h3 h7 h8 h9 h10 h11 h12) [0] [1, 2, 3] rfl rfl (by decide) (by decide) (by decide) 0 rfl rfl rfl jw_306 jw_307 jw_308 jw_224 jw_305 jn_X11_fails rfl (jj_le rfl) (jj_le rfl) (jj_le rfl) (jj_le rfl) (jj_le rfl) dX11_setGate_19 rfl (fun _ _ hX => hX.elim) (fun w1 r O_11 => ?_)
    obtain ⟨rfl, rfl⟩ := O_11
    refine jj_apd rfl ?_
    refine jj_if_eqF (tgt := 27) C dX11_setGate_22 (by decide) (by decide) ?_
    refine jj_iconst (v := 0) C dX11_setGate_25 (by decide) ?_
    exact jj_iret C (Or.inr (Or.inl ⟨c_4, c_5, rfl, rfl⟩)) dX11_setGate_26 (jj_le rfl) (jj_le rfl)
  · refine jj_apd rfl ?_
    refine jj_if_neT (tgt := 17) C dX11_setGate_10 (by decide) (by decide) ?_
    refine jj_iconst (v := 0) C dX11_setGate_17 (by decide) ?_
    refine jj_iconst (v := 1) C dX11_setGate_18 (by decide) ?_
    refine jq_callV (rest := []) C (ct_X11_fails_2 hl D cA ak h0 h1 h2 h4 h5 h6 h3 h7 h8 h9 h10 h11 h12) [0] [1, 2, 3] rfl rfl (by decide) (by decide) (by decide) 0 rfl rfl rfl jw_306 jw_307 jw_308 jw_224 jw_305 jn_X11_fails rfl (jj_le rfl) (jj_le rfl) (jj_le rfl) (jj_le rfl) (jj_le rfl) dX11_setGate_19 rfl (fun _ _ hX => hX.elim) (fun w1 r O_13 => ?_)
    obtain ⟨rfl, rfl⟩ := O_13
    refine jj_apd rfl ?_
    refine jj_if_eqT (tgt := 27) C dX11_setGate_22 (by decide) (by decide) ?_
    refine jj_aload_n C dX11_setGate_27 rfl ?_
    refine jq_callV (rest := []) C (ct_X11_remember_1 hl D cA ak h0 h1 h2 h3 h4 h5 h6 h7 h8 h9 h10 h11 h12) [3, 0, 1, 2] [] rfl rfl (by decide) (by decide) (by decide) 0 rfl rfl rfl jw_337 jw_338 jw_339 jw_224 jw_336 jn_X11_remember rfl (jj_le rfl) (jj_le rfl) (jj_le rfl) (jj_le rfl) (jj_le rfl) dX11_setGate_28 rfl (fun _ _ hX => hX.elim) (fun w1 r O_15 => ?_)
    obtain ⟨f_16, rfl, rfl⟩ := O_15
    refine jj_apd rfl ?_
    refine jj_aload_n C dX11_setGate_31 rfl ?_
    refine jj_get C jk_12 0 (by decide) jw_181 1 rfl rfl dX11_setGate_32 ?_
    refine jj_iconst (v := 4) C dX11_setGate_35 (by decide) ?_
    refine jj_lald (v := 100) C 0 rfl (vp_in_iff.mpr (by decide)) rfl dX11_setGate_36 ?_
    refine jj_l2i (v := 100) C dX11_setGate_37 (by decide) ?_
    refine jj_istore_n C dX11_setGate_38 (by decide) rfl ?_
    refine jj_aload_n C dX11_setGate_39 rfl ?_
    refine jj_get C jk_12 0 (by decide) jw_181 1 rfl rfl dX11_setGate_40 ?_
    refine jj_iconst (v := 4) C dX11_setGate_43 (by decide) ?_
    refine jj_iload_n C dX11_setGate_44 rfl ?_
    refine jj_i2l C dX11_setGate_45 rfl ?_
    refine jj_last C 0 rfl (vp_in_iff.mpr (by decide)) (g := (vp_updL (vp_updL (vp_updL (fun _ => 0) 0 1) 4 100) 4 a0.toInt64)) rfl rfl dX11_setGate_46 ?_
    refine jj_iload_n C dX11_setGate_47 rfl ?_
    exact jj_iret C (Or.inr (Or.inr ⟨f_16, c_6, c_7, rfl, rfl⟩)) dX11_setGate_48 (jj_le rfl) (jj_le rfl)


