set_option maxHeartbeats 4000000 in
set_option maxRecDepth 100000 in
theorem ct_X10_remember_1 {l : Launch} (hl : l.stackTraces = false) (D : va_G) (cA : Nat → ClassId) (ak : (Nat → Nat) × (Nat → Nat)) (h0 h1 h2 h3 h4 h5 h6 h7 h8 h9 h10 : Nat) : jj_M l D cA ak yX10_remember (.code yX10_remember cX10_remember 1 none) 3 53 63 408 [(h0, .inr (11, [.ref h4, .int 0, .int (-1), .ref h1, .ref h5, .ref h6, .ref h2, .int 0, .int 0, .ref h7])), (h1, .inr (2, [.int 1, .int 0, .int 0, .int 0, .int 100, .int 0, .int 0, .int 0, .int 0, .int 0, .ref h3, .ref h8, .ref h9, .ref h10])), (h2, .inl (cA 5, 10, .inr (.inr (.inr (.inr (fun _ => none)))))), (h3, .inl (cA 2, 6, .inr (.inl (fun _ => 0))))] [.ref h0] (fun (w : va_W) (r : Option Value) => (∃ q_1 q_4 q_5 q_6 q_7 q_8 : Nat, ∃ (f_9 : Nat → Option Nat), f_9 0 = some q_8 ∧ w = [(h0, .inr (11, [.ref h4, .int 0, .int (-1), .ref h1, .ref h5, .ref h6, .ref h2, .int 1, .int 1, .ref h7])), (h2, .inl (cA 5, 10, .inr (.inr (.inr (.inr (va_up (fun _ => none) 1 (some q_1))))))), (q_7, .inl (cA 7, 12, .inr (.inr (.inr (.inr f_9))))), (q_8, .inr (7, [.int 0, .int 0, .int 0, .long 0, .long 0])), (q_1, .inr (2, [.int 1, .int 0, .int 0, .int 0, .int 100, .int 0, .int 0, .int 0, .int 0, .int 0, .ref q_4, .ref q_5, .ref q_6, .ref q_7])), (h1, .inr (2, [.int 1, .int 0, .int 0, .int 0, .int 100, .int 0, .int 0, .int 0, .int 0, .int 0, .ref h3, .ref h8, .ref h9, .ref h10])), (q_4, .inl (cA 2, 6, .inr (.inl (vp_updL (vp_updL (vp_updL (vp_updL (vp_updL (vp_updL (fun _ => 0) 0 0) 1 0) 2 0) 3 0) 4 0) 5 0)))), (h3, .inl (cA 2, 6, .inr (.inl (fun _ => 0))))] ∧ r = none)) jj_noX := by
  refine jj_start hl (by decide) jw_279 (jj_le rfl) ?_
  intro p e s m args below meth c A hargs hA C hex hmn
  refine jj_aload_n C dX10_remember_0 rfl ?_
  refine jj_aload_n C dX10_remember_1 rfl ?_
  refine jj_get C jk_11 7 (by decide) jw_161 0 rfl rfl dX10_remember_2 ?_
  refine jj_iconst (v := 1) C dX10_remember_5 (by decide) ?_
  refine jj_iadd (v := 1) C dX10_remember_6 (by decide) ?_
  refine jj_bipush (v := 10) C dX10_remember_7 (by decide) ?_
  refine jj_icmp_geF (tgt := 21) C dX10_remember_9 (by decide) (by decide) ?_
  refine jj_aload_n C dX10_remember_12 rfl ?_
  refine jj_get C jk_11 7 (by decide) jw_161 0 rfl rfl dX10_remember_13 ?_
  refine jj_iconst (v := 1) C dX10_remember_16 (by decide) ?_
  refine jj_iadd (v := 1) C dX10_remember_17 (by decide) ?_
  refine jj_goto (tgt := 22) C dX10_remember_18 (by decide) ?_
  refine jj_put C jk_11 7 (by decide) jw_161 rfl 0 rfl rfl rfl rfl rfl dX10_remember_22 ?_
  refine jj_aload_n C dX10_remember_25 rfl ?_
  refine jj_get C jk_11 6 (by decide) jw_160 0 rfl rfl dX10_remember_26 ?_
  refine jj_aload_n C dX10_remember_29 rfl ?_
  refine jj_get C jk_11 7 (by decide) jw_161 0 rfl rfl dX10_remember_30 ?_
  refine jj_aald (v := none) C 2 5 rfl rfl (vp_in_iff.mpr (by decide)) rfl dX10_remember_33 ?_
  refine jj_ifnonnullN C dX10_remember_34 ?_
  refine jj_aload_n C dX10_remember_37 rfl ?_
  refine jj_get C jk_11 6 (by decide) jw_160 0 rfl rfl dX10_remember_38 ?_
  refine jj_aload_n C dX10_remember_41 rfl ?_
  refine jj_get C jk_11 7 (by decide) jw_161 0 rfl rfl dX10_remember_42 ?_
  refine jj_new (wt := []) C jk_2 jw_55 jw_56 jw_57 jd_2 (jj_le rfl) (jj_le rfl) dX10_remember_45 (fun q_1 => ?_)
  refine jj_apd rfl ?_
  refine jj_dup C dX10_remember_48 rfl ?_
  refine jq_callI (rest := [.ref q_1, .int 1, .ref h2]) C (ct_X0_init_1 hl D cA ak q_1) [4] [0, 1, 2, 3] rfl rfl (by decide) (by decide) (by decide) jw_132 jw_133 jw_57 jw_131 rfl jn_X0_init rfl (jj_le rfl) (jj_le rfl) (jj_le rfl) (jj_le rfl) (jj_le rfl) dX10_remember_49 rfl (fun w1 r O_3 => ?_)
  obtain ⟨q_4, q_5, q_6, q_7, q_8, f_9, c_10, rfl, rfl⟩ := O_3
  refine jj_apd rfl ?_
  refine jj_aast C 2 5 4 rfl rfl rfl rfl (vp_in_iff.mpr (by decide)) (g := (va_up (fun _ => none) 1 (some q_1))) rfl rfl dX10_remember_52 ?_
  refine jj_aload_n C dX10_remember_53 rfl ?_
  refine jj_get C jk_11 6 (by decide) jw_160 0 rfl rfl dX10_remember_54 ?_
  refine jj_aload_n C dX10_remember_57 rfl ?_
  refine jj_get C jk_11 7 (by decide) jw_161 0 rfl rfl dX10_remember_58 ?_
  refine jj_aald (v := (some q_1)) C 2 5 rfl rfl (vp_in_iff.mpr (by decide)) rfl dX10_remember_61 ?_
  refine jj_aload_n C dX10_remember_62 rfl ?_
  refine jj_get C jk_11 3 (by decide) jw_135 0 rfl rfl dX10_remember_63 ?_
  refine jq_callV (rest := []) C (ct_X0_copyFrom_1 hl D cA ak q_1 h1 q_4 h3 q_5 q_6 q_7 h8 h9 h10) [4, 1, 5, 3] [0, 2, 6, 7] rfl rfl (by decide) (by decide) (by decide) 0 rfl rfl rfl jw_275 jw_276 jw_277 jw_57 jw_274 jn_X0_copyFrom rfl (jj_le rfl) (jj_le rfl) (jj_le rfl) (jj_le rfl) (jj_le rfl) dX10_remember_66 rfl (fun _ _ hX => hX.elim) (fun w1 r O_12 => ?_)
  obtain ⟨rfl, rfl⟩ := O_12
  refine jj_apd rfl ?_
  refine jj_aload_n C dX10_remember_69 rfl ?_
  refine jj_get C jk_11 8 (by decide) jw_162 0 rfl rfl dX10_remember_70 ?_
  refine jj_bipush (v := 10) C dX10_remember_73 (by decide) ?_
  refine jj_icmp_geF (tgt := 88) C dX10_remember_75 (by decide) (by decide) ?_
  refine jj_aload_n C dX10_remember_78 rfl ?_
  refine jj_dup C dX10_remember_79 rfl ?_
  refine jj_get C jk_11 8 (by decide) jw_162 0 rfl rfl dX10_remember_80 ?_
  refine jj_iconst (v := 1) C dX10_remember_83 (by decide) ?_
  refine jj_iadd (v := 1) C dX10_remember_84 (by decide) ?_
  refine jj_put C jk_11 8 (by decide) jw_162 rfl 0 rfl rfl rfl rfl rfl dX10_remember_85 ?_
  exact jj_vret C ⟨q_1, q_4, q_5, q_6, q_7, q_8, f_9, c_10, rfl, rfl⟩ dX10_remember_88 (jj_le rfl) (jj_le rfl)


set_option maxHeartbeats 4000000 in
set_option maxRecDepth 100000 in
theorem ct_J9_min_7cf53_1 {l : Launch} (hl : l.stackTraces = false) (D : va_G) (cA : Nat → ClassId) (ak : (Nat → Nat) × (Nat → Nat)) : jj_M l D cA ak yJ9_min_7cf53 (.code yJ9_min_7cf53 cJ9_min_7cf53 2 (some .int)) 0 0 0 0 [] [.int 0, .int 11] (fun (w : va_W) (r : Option Value) => (w = [] ∧ r = some (.int 0))) jj_noX := by
  refine jq_startF hl (by decide +kernel) jw_284 (jj_le rfl) ?_
  intro p e s m args below meth c A hargs hA C hex hmn
  refine jj_iload_n C dJ9_min_7cf53_0 rfl ?_
  refine jj_iload_n C dJ9_min_7cf53_1 rfl ?_
  refine jj_icmp_gtF (tgt := 9) C dJ9_min_7cf53_2 (by decide) (by decide) ?_
  refine jj_iload_n C dJ9_min_7cf53_5 rfl ?_
  refine jj_goto (tgt := 10) C dJ9_min_7cf53_6 (by decide) ?_
  exact jj_iret C ⟨rfl, rfl⟩ dJ9_min_7cf53_10 (jj_le rfl) (jj_le rfl)


set_option maxHeartbeats 4000000 in
set_option maxRecDepth 100000 in
theorem ct_X0_addRequest_1 {l : Launch} (hl : l.stackTraces = false) (D : va_G) (cA : Nat → ClassId) (ak : (Nat → Nat) × (Nat → Nat)) (h0 h1 h2 h3 h4 h5 : Nat) (a0 : Int32) (b1 : Int64) (f2 : Nat → Option Nat) (k_f2_0 : f2 0 = some h2) : jj_M l D cA ak yX0_addRequest (.code yX0_addRequest cX0_addRequest 7 (some .int)) 1 21 0 0 [(h0, .inr (2, [.int 1, .int 0, .int 0, .int 0, .int 100, .int 0, .int 0, .int 0, .int 0, .int 0, .ref h3, .ref h4, .ref h5, .ref h1])), (h1, .inl (cA 7, 12, .inr (.inr (.inr (.inr f2))))), (h2, .inr (7, [.int 0, .int 0, .int 0, .long 0, .long 0]))] [.ref h0, .int a0, .int 0, .long b1] (fun (w : va_W) (r : Option Value) => (w = [(h0, .inr (2, [.int 1, .int 0, .int 0, .int 0, .int 100, .int 0, .int 0, .int 0, .int 0, .int 1, .ref h3, .ref h4, .ref h5, .ref h1])), (h1, .inl (cA 7, 12, .inr (.inr (.inr (.inr f2))))), (h2, .inr (7, [.int a0, .int 0, .int 0, .long b1, .long 0]))] ∧ r = some (.int 0))) jj_noX := by
  refine jj_start hl (by decide) jw_294 (jj_le rfl) ?_
  intro p e s m args below meth c A hargs hA C hex hmn
  refine jj_aload_n C dX0_addRequest_0 rfl ?_
  refine jj_get C jk_2 9 (by decide) jw_68 0 rfl rfl dX0_addRequest_1 ?_
  refine jj_bipush (v := 11) C dX0_addRequest_4 (by decide) ?_
  refine jq_callS (rest := []) C (ct_J9_min_7cf53_1 hl D cA ak) [] [0, 1, 2] rfl rfl (by decide) (by decide) (by decide) jw_285 jw_287 jw_286 jw_284 jn_J9_min_7cf53 rfl (jj_le rfl) (jj_le rfl) (jj_le rfl) (jj_le rfl) (jj_le rfl) dX0_addRequest_6 rfl (fun _ _ hX => hX.elim) (fun w1 r O_2 => ?_)
  obtain ⟨rfl, rfl⟩ := O_2
  refine jj_apd rfl ?_
  refine jj_istore C dX0_addRequest_9 (by decide) rfl ?_
  refine jj_aload_n C dX0_addRequest_11 rfl ?_
  refine jj_get C jk_2 13 (by decide) jw_76 0 rfl rfl dX0_addRequest_12 ?_
  refine jj_iload C dX0_addRequest_15 rfl ?_
  refine jj_aald (v := (some h2)) C 1 7 rfl rfl (vp_in_iff.mpr (by decide)) k_f2_0 dX0_addRequest_17 ?_
  refine jj_astore C dX0_addRequest_18 (by decide) rfl ?_
  refine jj_aload C dX0_addRequest_20 rfl ?_
  refine jj_iload_n C dX0_addRequest_22 rfl ?_
  refine jj_put C jk_7 0 (by decide) jw_289 rfl 2 rfl rfl rfl rfl rfl dX0_addRequest_23 ?_
  refine jj_aload C dX0_addRequest_26 rfl ?_
  refine jj_iload_n C dX0_addRequest_28 rfl ?_
  refine jj_put C jk_7 2 (by decide) jw_290 rfl 2 rfl rfl rfl rfl rfl dX0_addRequest_29 ?_
  refine jj_aload C dX0_addRequest_32 rfl ?_
  refine jj_lload_n C dX0_addRequest_34 rfl ?_
  refine jj_put C jk_7 3 (by decide) jw_291 rfl 2 rfl rfl rfl rfl rfl dX0_addRequest_35 ?_
  refine jj_aload C dX0_addRequest_38 rfl ?_
  refine jj_lconst (v := 0) C dX0_addRequest_40 (by decide) ?_
  refine jj_put C jk_7 4 (by decide) jw_292 rfl 2 rfl rfl rfl rfl rfl dX0_addRequest_41 ?_
  refine jj_aload C dX0_addRequest_44 rfl ?_
  refine jj_aload_n C dX0_addRequest_46 rfl ?_
  refine jj_get C jk_2 5 (by decide) jw_64 0 rfl rfl dX0_addRequest_47 ?_
  refine jj_put C jk_7 1 (by decide) jw_293 rfl 2 rfl rfl rfl rfl rfl dX0_addRequest_50 ?_
  refine jj_aload_n C dX0_addRequest_53 rfl ?_
  refine jj_iload C dX0_addRequest_54 rfl ?_
  refine jj_iconst (v := 1) C dX0_addRequest_56 (by decide) ?_
  refine jj_iadd (v := 1) C dX0_addRequest_57 (by decide) ?_
  refine jj_put C jk_2 9 (by decide) jw_68 rfl 0 rfl rfl rfl rfl rfl dX0_addRequest_58 ?_
  refine jj_iload C dX0_addRequest_61 rfl ?_
  exact jj_iret C ⟨rfl, rfl⟩ dX0_addRequest_63 (jj_le rfl) (jj_le rfl)


set_option maxHeartbeats 4000000 in
set_option maxRecDepth 100000 in
theorem ct_X10_subscribe_1 {l : Launch} (hl : l.stackTraces = false) (D : va_G) (cA : Nat → ClassId) (ak : (Nat → Nat) × (Nat → Nat)) (h0 h1 h2 h3 h4 h5 h6 h7 h8 h9 h10 h11 : Nat) (a0 : Int32) (a1 : Int32) (f2 : Nat → Option Nat) (k_f2_0 : f2 0 = some h5) : jj_M l D cA ak yX10_subscribe (.code yX10_subscribe cX10_subscribe 3 (some .int)) 7 102 63 408 [(h0, .inr (11, [.ref h6, .int 0, .int (-1), .ref h1, .ref h7, .ref h8, .ref h2, .int 0, .int 0, .ref h9])), (h1, .inr (2, [.int 1, .int 0, .int 0, .int 0, .int 100, .int 0, .int 0, .int 0, .int 0, .int 0, .ref h3, .ref h10, .ref h11, .ref h4])), (h2, .inl (cA 5, 10, .inr (.inr (.inr (.inr (fun _ => none)))))), (h3, .inl (cA 2, 6, .inr (.inl (fun _ => 0)))), (h4, .inl (cA 7, 12, .inr (.inr (.inr (.inr f2))))), (h5, .inr (7, [.int 0, .int 0, .int 0, .long 0, .long 0]))] [.ref h0, .int a0, .int a1] (fun (w : va_W) (r : Option Value) => (¬ a0 < 0 ∧ ¬ 1 ≤ a0 ∧ ¬ a1 < 1 ∧ a1 ≤ 9999999 ∧ r = some (.int 0))) (fun (E : String) (w : va_W) => (E = "java/lang/IndexOutOfBoundsException" ∧ a0 < 0) ∨ (E = "java/lang/IndexOutOfBoundsException" ∧ ¬ a0 < 0 ∧ 1 ≤ a0) ∨ (E = "java/lang/IllegalArgumentException" ∧ ¬ a0 < 0 ∧ ¬ 1 ≤ a0 ∧ a1 < 1) ∨ (E = "java/lang/IllegalArgumentException" ∧ ¬ a0 < 0 ∧ ¬ 1 ≤ a0 ∧ ¬ a1 < 1 ∧ ¬ a1 ≤ 9999999)) := by
  refine jj_start hl (by decide) jw_299 (jj_le rfl) ?_
  intro p e s m args below meth c A hargs hA C hex hmn
  refine jj_aload_n C dX10_subscribe_0 rfl ?_
  refine jj_get C jk_11 3 (by decide) jw_135 0 rfl rfl dX10_subscribe_1 ?_
  refine jj_iload_n C dX10_subscribe_4 rfl ?_
  refine jj_iload_n C dX10_subscribe_5 rfl ?_
  refine jq_callV (rest := []) C (ct_X0_subscriptionFault_1 hl D cA ak h1 h3 h10 h11 h4 a0 a1) [1] [0, 2, 3, 4, 5] rfl rfl (by decide) (by decide) (by decide) 0 rfl rfl rfl jw_263 jw_264 jw_265 jw_57 jw_262 jn_X0_subscriptionFault rfl (jj_le rfl) (jj_le rfl) (jj_le rfl) (jj_le rfl) (jj_le rfl) dX10_subscribe_6 rfl (fun _ _ hX => hX.elim) (fun w1 r O_2 => ?_)
  rcases O_2 with ⟨c_3, rfl, rfl⟩ | ⟨c_4, c_5, rfl, rfl⟩ | ⟨c_6, c_7, c_8, rfl, rfl⟩ | ⟨c_9, c_10, c_11, c_12, rfl, rfl⟩ | ⟨c_13, c_14, c_15, c_16, rfl, rfl⟩
  · refine jj_apd rfl ?_
    refine jq_callS (rest := []) C (ct_X10_refuse_1 hl D cA ak) [] [0, 1, 2, 3, 4, 5] rfl rfl (by decide) (by decide) (by decide) jw_270 jw_272 jw_271 jw_269 jn_X10_refuse rfl (jj_le rfl) (jj_le rfl) (jj_le rfl) (jj_le rfl) (jj_le rfl) dX10_subscribe_9 rfl (fun E w1 X_17 => ?_) (fun w1 r O_18 => ?_)
    · obtain rfl := X_17
      refine jj_leftY ?_
      exact jj_out C hex (Or.inl ⟨rfl, c_3⟩) (jj_le rfl) (jj_le rfl)
    · exact O_18.elim
  · refine jj_apd rfl ?_
    refine jq_callS (rest := []) C (ct_X10_refuse_1 hl D cA ak) [] [0, 1, 2, 3, 4, 5] rfl rfl (by decide) (by decide) (by decide) jw_270 jw_272 jw_271 jw_269 jn_X10_refuse rfl (jj_le rfl) (jj_le rfl) (jj_le rfl) (jj_le rfl) (jj_le rfl) dX10_subscribe_9 rfl (fun E w1 X_19 => ?_) (fun w1 r O_20 => ?_)
    · obtain rfl := X_19
      refine jj_leftY ?_
      exact jj_out C hex (Or.inr (Or.inl ⟨rfl, c_4, c_5⟩)) (jj_le rfl) (jj_le rfl)
    · exact O_20.elim
  · refine jj_apd rfl ?_
    refine jq_callS (rest := []) C (ct_X10_refuse_2 hl D cA ak) [] [0, 1, 2, 3, 4, 5] rfl rfl (by decide) (by decide) (by decide) jw_270 jw_272 jw_271 jw_269 jn_X10_refuse rfl (jj_le rfl) (jj_le rfl) (jj_le rfl) (jj_le rfl) (jj_le rfl) dX10_subscribe_9 rfl (fun E w1 X_21 => ?_) (fun w1 r O_22 => ?_)
    · obtain rfl := X_21
      refine jj_leftY ?_
      exact jj_out C hex (Or.inr (Or.inr (Or.inl ⟨rfl, c_6, c_7, c_8⟩))) (jj_le rfl) (jj_le rfl)
    · exact O_22.elim
  · refine jj_apd rfl ?_
    refine jq_callS (rest := []) C (ct_X10_refuse_3 hl D cA ak) [] [0, 1, 2, 3, 4, 5] rfl rfl (by decide) (by decide) (by decide) jw_270 jw_272 jw_271 jw_269 jn_X10_refuse rfl (jj_le rfl) (jj_le rfl) (jj_le rfl) (jj_le rfl) (jj_le rfl) dX10_subscribe_9 rfl (fun _ _ hX => hX.elim) (fun w1 r O_24 => ?_)
    obtain ⟨rfl, rfl⟩ := O_24
    refine jj_apd rfl ?_
    refine jj_aload_n C dX10_subscribe_12 rfl ?_
    refine jq_callV (rest := []) C (ct_X10_remember_1 hl D cA ak h0 h1 h2 h3 h6 h7 h8 h9 h10 h11 h4) [0, 5, 1, 2] [3, 4] rfl rfl (by decide) (by decide) (by decide) 0 rfl rfl rfl jw_280 jw_281 jw_282 jw_271 jw_279 jn_X10_remember rfl (jj_le rfl) (jj_le rfl) (jj_le rfl) (jj_le rfl) (jj_le rfl) dX10_subscribe_13 rfl (fun _ _ hX => hX.elim) (fun w1 r O_26 => ?_)
    obtain ⟨q_27, q_28, q_29, q_30, q_31, q_32, f_33, c_34, rfl, rfl⟩ := O_26
    refine jj_apd rfl ?_
    refine jj_aload_n C dX10_subscribe_16 rfl ?_
    refine jj_get C jk_11 3 (by decide) jw_135 2 rfl rfl dX10_subscribe_17 ?_
    refine jj_iload_n C dX10_subscribe_20 rfl ?_
    refine jj_iconst (v := 0) C dX10_subscribe_21 (by decide) ?_
    refine jj_iload_n C dX10_subscribe_22 rfl ?_
    refine jj_i2l C dX10_subscribe_23 rfl ?_
    refine jq_callV (rest := []) C (ct_X0_addRequest_1 hl D cA ak h1 h4 h5 h3 h10 h11 a0 a1.toInt64 f2 k_f2_0) [7, 0, 1] [2, 3, 4, 5, 6, 8, 9] rfl rfl (by decide) (by decide) (by decide) 0 rfl rfl rfl jw_295 jw_296 jw_297 jw_57 jw_294 jn_X0_addRequest rfl (jj_le rfl) (jj_le rfl) (jj_le rfl) (jj_le rfl) (jj_le rfl) dX10_subscribe_24 rfl (fun _ _ hX => hX.elim) (fun w1 r O_36 => ?_)
    obtain ⟨rfl, rfl⟩ := O_36
    refine jj_apd rfl ?_
    exact jj_iret C ⟨c_9, c_10, c_11, c_12, rfl⟩ dX10_subscribe_27 (jj_le rfl) (jj_le rfl)
  · refine jj_apd rfl ?_
    refine jq_callS (rest := []) C (ct_X10_refuse_2 hl D cA ak) [] [0, 1, 2, 3, 4, 5] rfl rfl (by decide) (by decide) (by decide) jw_270 jw_272 jw_271 jw_269 jn_X10_refuse rfl (jj_le rfl) (jj_le rfl) (jj_le rfl) (jj_le rfl) (jj_le rfl) dX10_subscribe_9 rfl (fun E w1 X_37 => ?_) (fun w1 r O_38 => ?_)
    · obtain rfl := X_37
      refine jj_leftY ?_
      exact jj_out C hex (Or.inr (Or.inr (Or.inr ⟨rfl, c_13, c_14, c_15, c_16⟩))) (jj_le rfl) (jj_le rfl)
    · exact O_38.elim


set_option maxHeartbeats 4000000 in
set_option maxRecDepth 100000 in
theorem ct_X11_isInvestor_1 {l : Launch} (hl : l.stackTraces = false) (D : va_G) (cA : Nat → ClassId) (ak : (Nat → Nat) × (Nat → Nat)) (h0 h1 h2 h3 h4 h5 h6 h7 h8 h9 h10 h11 h12 : Nat) (a0 : Int32) : jj_M l D cA ak yX11_isInvestor (.code yX11_isInvestor cX11_isInvestor 2 (some .boolean)) 1 25 0 0 [(h0, .inr (12, [.ref h1, .ref h2, .ref h3, .ref h4, .ref h5, .ref h6, .int 0, .int 0, .long 0, .long 0, .ref h7, .ref h8, .ref h9, .int 0, .int 0, .int 0, .int 0, .int 0, .int (-1), .int 0, .int 0, .ref h10, .ref h11, .ref h12, .int 0])), (h1, .inl (cA 2, 334, .inr (.inl (vp_updL (vp_updL (fun _ => 0) 0 1) 4 100))))] [.ref h0, .int a0] (fun (w : va_W) (r : Option Value) => (a0.toInt64 < 0 ∧ w = [(h0, .inr (12, [.ref h1, .ref h2, .ref h3, .ref h4, .ref h5, .ref h6, .int 0, .int 0, .long 0, .long 0, .ref h7, .ref h8, .ref h9, .int 0, .int 0, .int 0, .int 0, .int 0, .int (-1), .int 0, .int 0, .ref h10, .ref h11, .ref h12, .int 0])), (h1, .inl (cA 2, 334, .inr (.inl (vp_updL (vp_updL (fun _ => 0) 0 1) 4 100))))] ∧ r = some (.int 0)) ∨ (¬ a0.toInt64 < 0 ∧ 0 < a0.toInt64 ∧ w = [(h0, .inr (12, [.ref h1, .ref h2, .ref h3, .ref h4, .ref h5, .ref h6, .int 0, .int 0, .long 0, .long 0, .ref h7, .ref h8, .ref h9, .int 0, .int 0, .int 0, .int 0, .int 0, .int (-1), .int 0, .int 0, .ref h10, .ref h11, .ref h12, .int 0])), (h1, .inl (cA 2, 334, .inr (.inl (vp_updL (vp_updL (fun _ => 0) 0 1) 4 100))))] ∧ r = some (.int 0)) ∨ (¬ a0.toInt64 < 0 ∧ ¬ 0 < a0.toInt64 ∧ w = [(h0, .inr (12, [.ref h1, .ref h2, .ref h3, .ref h4, .ref h5, .ref h6, .int 0, .int 0, .long 0, .long 0, .ref h7, .ref h8, .ref h9, .int 0, .int 0, .int 0, .int 0, .int 0, .int (-1), .int 0, .int 0, .ref h10, .ref h11, .ref h12, .int 0])), (h1, .inl (cA 2, 334, .inr (.inl (vp_updL (vp_updL (fun _ => 0) 0 1) 4 100))))] ∧ r = some (.int 1))) jj_noX := by
  refine jj_start hl (by decide) jw_300 (jj_le rfl) ?_
  intro p e s m args below meth c A hargs hA C hex hmn
  refine jj_iload_n C dX11_isInvestor_0 rfl ?_
  refine jj_i2l C dX11_isInvestor_1 rfl ?_
  refine jj_lconst (v := 0) C dX11_isInvestor_2 (by decide) ?_
  refine jj_aload_n C dX11_isInvestor_3 rfl ?_
  refine jj_get C jk_12 0 (by decide) jw_181 0 rfl rfl dX11_isInvestor_4 ?_
  refine jj_iconst (v := 0) C dX11_isInvestor_7 (by decide) ?_
  refine jj_lald (v := 1) C 1 rfl (vp_in_iff.mpr (by decide)) rfl dX11_isInvestor_8 ?_
  refine jj_lconst (v := 1) C dX11_isInvestor_9 (by decide) ?_
  refine jj_lsub (v := 0) C dX11_isInvestor_10 (by decide) ?_
  refine jq_callS (rest := []) C (ct_X11_in_1 hl D cA ak a0.toInt64) [] [0, 1] rfl rfl (by decide) (by decide) (by decide) jw_247 jw_248 jw_224 jw_246 jn_X11_in rfl (jj_le rfl) (jj_le rfl) (jj_le rfl) (jj_le rfl) (jj_le rfl) dX11_isInvestor_11 rfl (fun _ _ hX => hX.elim) (fun w1 r O_2 => ?_)
  rcases O_2 with ⟨c_3, rfl, rfl⟩ | ⟨c_4, c_5, rfl, rfl⟩ | ⟨c_6, c_7, rfl, rfl⟩
  · refine jj_apd rfl ?_
    exact jj_zret C rfl (Or.inl ⟨c_3, rfl, rfl⟩) dX11_isInvestor_14 (jj_le rfl) (jj_le rfl)
  · refine jj_apd rfl ?_
    exact jj_zret C rfl (Or.inr (Or.inl ⟨c_4, c_5, rfl, rfl⟩)) dX11_isInvestor_14 (jj_le rfl) (jj_le rfl)
  · refine jj_apd rfl ?_
    exact jj_zret C rfl (Or.inr (Or.inr ⟨c_6, c_7, rfl, rfl⟩)) dX11_isInvestor_14 (jj_le rfl) (jj_le rfl)


set_option maxHeartbeats 4000000 in
set_option maxRecDepth 100000 in
theorem ct_X11_fails_1 {l : Launch} (hl : l.stackTraces = false) (D : va_G) (cA : Nat → ClassId) (ak : (Nat → Nat) × (Nat → Nat)) (h0 h1 h2 h3 h4 h5 h6 h7 h8 h9 h10 h11 h12 : Nat) : jj_M l D cA ak yX11_fails (.code yX11_fails cX11_fails 3 (some .boolean)) 0 0 0 0 [(h0, .inr (12, [.ref h1, .ref h2, .ref h3, .ref h4, .ref h5, .ref h6, .int 0, .int 0, .long 0, .long 0, .ref h7, .ref h8, .ref h9, .int 0, .int 0, .int 0, .int 0, .int 0, .int (-1), .int 0, .int 0, .ref h10, .ref h11, .ref h12, .int 0]))] [.ref h0, .int 1, .int 1] (fun (w : va_W) (r : Option Value) => (w = [(h0, .inr (12, [.ref h1, .ref h2, .ref h3, .ref h4, .ref h5, .ref h6, .int 0, .int 1, .long 0, .long 0, .ref h7, .ref h8, .ref h9, .int 0, .int 0, .int 0, .int 0, .int 0, .int (-1), .int 0, .int 0, .ref h10, .ref h11, .ref h12, .int 0]))] ∧ r = some (.int 1))) jj_noX := by
  refine jj_start hl (by decide) jw_305 (jj_le rfl) ?_
  intro p e s m args below meth c A hargs hA C hex hmn
  refine jj_aload_n C dX11_fails_0 rfl ?_
  refine jj_iload_n C dX11_fails_1 rfl ?_
  refine jj_if_eqF (tgt := 9) C dX11_fails_2 (by decide) (by decide) ?_
  refine jj_iload_n C dX11_fails_5 rfl ?_
  refine jj_goto (tgt := 10) C dX11_fails_6 (by decide) ?_
  refine jj_put C jk_12 7 (by decide) jw_236 rfl 0 rfl rfl rfl rfl rfl dX11_fails_10 ?_
  refine jj_iload_n C dX11_fails_13 rfl ?_
  exact jj_zret C rfl ⟨rfl, rfl⟩ dX11_fails_14 (jj_le rfl) (jj_le rfl)


set_option maxHeartbeats 4000000 in
set_option maxRecDepth 100000 in
theorem ct_X11_fails_2 {l : Launch} (hl : l.stackTraces = false) (D : va_G) (cA : Nat → ClassId) (ak : (Nat → Nat) × (Nat → Nat)) (h0 h1 h2 h3 h4 h5 h6 h7 h8 h9 h10 h11 h12 : Nat) : jj_M l D cA ak yX11_fails (.code yX11_fails cX11_fails 3 (some .boolean)) 0 0 0 0 [(h0, .inr (12, [.ref h1, .ref h2, .ref h3, .ref h4, .ref h5, .ref h6, .int 0, .int 0, .long 0, .long 0, .ref h7, .ref h8, .ref h9, .int 0, .int 0, .int 0, .int 0, .int 0, .int (-1), .int 0, .int 0, .ref h10, .ref h11, .ref h12, .int 0]))] [.ref h0, .int 0, .int 1] (fun (w : va_W) (r : Option Value) => (w = [(h0, .inr (12, [.ref h1, .ref h2, .ref h3, .ref h4, .ref h5, .ref h6, .int 0, .int 0, .long 0, .long 0, .ref h7, .ref h8, .ref h9, .int 0, .int 0, .int 0, .int 0, .int 0, .int (-1), .int 0, .int 0, .ref h10, .ref h11, .ref h12, .int 0]))] ∧ r = some (.int 0))) jj_noX := by
  refine jj_start hl (by decide) jw_305 (jj_le rfl) ?_
  intro p e s m args below meth c A hargs hA C hex hmn
  refine jj_aload_n C dX11_fails_0 rfl ?_
  refine jj_iload_n C dX11_fails_1 rfl ?_
  refine jj_if_eqT (tgt := 9) C dX11_fails_2 (by decide) (by decide) ?_
  refine jj_iconst (v := 0) C dX11_fails_9 (by decide) ?_
  refine jj_put C jk_12 7 (by decide) jw_236 rfl 0 rfl rfl rfl rfl rfl dX11_fails_10 ?_
  refine jj_iload_n C dX11_fails_13 rfl ?_
  exact jj_zret C rfl ⟨rfl, rfl⟩ dX11_fails_14 (jj_le rfl) (jj_le rfl)


set_option maxHeartbeats 4000000 in
set_option maxRecDepth 100000 in
theorem ct_X11_isNoInvestor_1 {l : Launch} (hl : l.stackTraces = false) (D : va_G) (cA : Nat → ClassId) (ak : (Nat → Nat) × (Nat → Nat)) (h0 h1 h2 h3 h4 h5 h6 h7 h8 h9 h10 h11 h12 : Nat) (a0 : Int32) : jj_M l D cA ak yX11_isNoInvestor (.code yX11_isNoInvestor cX11_isNoInvestor 2 (some .boolean)) 2 46 0 0 [(h0, .inr (12, [.ref h1, .ref h2, .ref h3, .ref h4, .ref h5, .ref h6, .int 0, .int 0, .long 0, .long 0, .ref h7, .ref h8, .ref h9, .int 0, .int 0, .int 0, .int 0, .int 0, .int (-1), .int 0, .int 0, .ref h10, .ref h11, .ref h12, .int 0])), (h1, .inl (cA 2, 334, .inr (.inl (vp_updL (vp_updL (fun _ => 0) 0 1) 4 100))))] [.ref h0, .int a0] (fun (w : va_W) (r : Option Value) => (a0.toInt64 < 0 ∧ w = [(h1, .inl (cA 2, 334, .inr (.inl (vp_updL (vp_updL (fun _ => 0) 0 1) 4 100)))), (h0, .inr (12, [.ref h1, .ref h2, .ref h3, .ref h4, .ref h5, .ref h6, .int 0, .int 1, .long 0, .long 0, .ref h7, .ref h8, .ref h9, .int 0, .int 0, .int 0, .int 0, .int 0, .int (-1), .int 0, .int 0, .ref h10, .ref h11, .ref h12, .int 0]))] ∧ r = some (.int 1)) ∨ (¬ a0.toInt64 < 0 ∧ 0 < a0.toInt64 ∧ w = [(h1, .inl (cA 2, 334, .inr (.inl (vp_updL (vp_updL (fun _ => 0) 0 1) 4 100)))), (h0, .inr (12, [.ref h1, .ref h2, .ref h3, .ref h4, .ref h5, .ref h6, .int 0, .int 1, .long 0, .long 0, .ref h7, .ref h8, .ref h9, .int 0, .int 0, .int 0, .int 0, .int 0, .int (-1), .int 0, .int 0, .ref h10, .ref h11, .ref h12, .int 0]))] ∧ r = some (.int 1)) ∨ (¬ a0.toInt64 < 0 ∧ ¬ 0 < a0.toInt64 ∧ w = [(h1, .inl (cA 2, 334, .inr (.inl (vp_updL (vp_updL (fun _ => 0) 0 1) 4 100)))), (h0, .inr (12, [.ref h1, .ref h2, .ref h3, .ref h4, .ref h5, .ref h6, .int 0, .int 0, .long 0, .long 0, .ref h7, .ref h8, .ref h9, .int 0, .int 0, .int 0, .int 0, .int 0, .int (-1), .int 0, .int 0, .ref h10, .ref h11, .ref h12, .int 0]))] ∧ r = some (.int 0))) jj_noX := by
  refine jj_start hl (by decide) jw_310 (jj_le rfl) ?_
  intro p e s m args below meth c A hargs hA C hex hmn
  refine jj_aload_n C dX11_isNoInvestor_0 rfl ?_
  refine jj_aload_n C dX11_isNoInvestor_1 rfl ?_
  refine jj_iload_n C dX11_isNoInvestor_2 rfl ?_
  refine jq_callV (rest := [.ref h0]) C (ct_X11_isInvestor_1 hl D cA ak h0 h1 h2 h3 h4 h5 h6 h7 h8 h9 h10 h11 h12 a0) [0, 1] [] rfl rfl (by decide) (by decide) (by decide) 0 rfl rfl rfl jw_301 jw_302 jw_303 jw_224 jw_300 jn_X11_isInvestor rfl (jj_le rfl) (jj_le rfl) (jj_le rfl) (jj_le rfl) (jj_le rfl) dX11_isNoInvestor_3 rfl (fun _ _ hX => hX.elim) (fun w1 r O_2 => ?_)
  rcases O_2 with ⟨c_3, rfl, rfl⟩ | ⟨c_4, c_5, rfl, rfl⟩ | ⟨c_6, c_7, rfl, rfl⟩
  · refine jj_apd rfl ?_
    refine jj_if_neF (tgt := 13) C dX11_isNoInvestor_6 (by decide) (by decide) ?_
    refine jj_iconst (v := 1) C dX11_isNoInvestor_9 (by decide) ?_
    refine jj_goto (tgt := 14) C dX11_isNoInvestor_10 (by decide) ?_
    refine jj_iconst (v := 1) C dX11_isNoInvestor_14 (by decide) ?_
    refine jq_callV (rest := []) C (ct_X11_fails_1 hl D cA ak h0 h1 h2 h3 h4 h5 h6 h7 h8 h9 h10 h11 h12) [0] [1] rfl rfl (by decide) (by decide) (by decide) 0 rfl rfl rfl jw_306 jw_307 jw_308 jw_224 jw_305 jn_X11_fails rfl (jj_le rfl) (jj_le rfl) (jj_le rfl) (jj_le rfl) (jj_le rfl) dX11_isNoInvestor_15 rfl (fun _ _ hX => hX.elim) (fun w1 r O_9 => ?_)
    obtain ⟨rfl, rfl⟩ := O_9
    refine jj_apd rfl ?_
    exact jj_zret C rfl (Or.inl ⟨c_3, rfl, rfl⟩) dX11_isNoInvestor_18 (jj_le rfl) (jj_le rfl)
  · refine jj_apd rfl ?_
    refine jj_if_neF (tgt := 13) C dX11_isNoInvestor_6 (by decide) (by decide) ?_
    refine jj_iconst (v := 1) C dX11_isNoInvestor_9 (by decide) ?_
    refine jj_goto (tgt := 14) C dX11_isNoInvestor_10 (by decide) ?_
    refine jj_iconst (v := 1) C dX11_isNoInvestor_14 (by decide) ?_
    refine jq_callV (rest := []) C (ct_X11_fails_1 hl D cA ak h0 h1 h2 h3 h4 h5 h6 h7 h8 h9 h10 h11 h12) [0] [1] rfl rfl (by decide) (by decide) (by decide) 0 rfl rfl rfl jw_306 jw_307 jw_308 jw_224 jw_305 jn_X11_fails rfl (jj_le rfl) (jj_le rfl) (jj_le rfl) (jj_le rfl) (jj_le rfl) dX11_isNoInvestor_15 rfl (fun _ _ hX => hX.elim) (fun w1 r O_11 => ?_)
    obtain ⟨rfl, rfl⟩ := O_11
    refine jj_apd rfl ?_
    exact jj_zret C rfl (Or.inr (Or.inl ⟨c_4, c_5, rfl, rfl⟩)) dX11_isNoInvestor_18 (jj_le rfl) (jj_le rfl)
  · refine jj_apd rfl ?_
    refine jj_if_neT (tgt := 13) C dX11_isNoInvestor_6 (by decide) (by decide) ?_
    refine jj_iconst (v := 0) C dX11_isNoInvestor_13 (by decide) ?_
    refine jj_iconst (v := 1) C dX11_isNoInvestor_14 (by decide) ?_
    refine jq_callV (rest := []) C (ct_X11_fails_2 hl D cA ak h0 h1 h2 h3 h4 h5 h6 h7 h8 h9 h10 h11 h12) [0] [1] rfl rfl (by decide) (by decide) (by decide) 0 rfl rfl rfl jw_306 jw_307 jw_308 jw_224 jw_305 jn_X11_fails rfl (jj_le rfl) (jj_le rfl) (jj_le rfl) (jj_le rfl) (jj_le rfl) dX11_isNoInvestor_15 rfl (fun _ _ hX => hX.elim) (fun w1 r O_13 => ?_)
    obtain ⟨rfl, rfl⟩ := O_13
    refine jj_apd rfl ?_
    exact jj_zret C rfl (Or.inr (Or.inr ⟨c_6, c_7, rfl, rfl⟩)) dX11_isNoInvestor_18 (jj_le rfl) (jj_le rfl)


set_option maxHeartbeats 4000000 in
set_option maxRecDepth 100000 in
theorem ct_X11_in_2 {l : Launch} (hl : l.stackTraces = false) (D : va_G) (cA : Nat → ClassId) (ak : (Nat → Nat) × (Nat → Nat)) (b0 : Int64) : jj_M l D cA ak yX11_in (.code yX11_in cX11_in 6 (some .boolean)) 0 0 0 0 [] [.long b0, .long 1, .long 9999999] (fun (w : va_W) (r : Option Value) => (b0 < 1 ∧ w = [] ∧ r = some (.int 0)) ∨ (¬ b0 < 1 ∧ 9999999 < b0 ∧ w = [] ∧ r = some (.int 0)) ∨ (¬ b0 < 1 ∧ ¬ 9999999 < b0 ∧ w = [] ∧ r = some (.int 1))) jj_noX := by
  refine jj_start hl (by decide) jw_246 (jj_le rfl) ?_
  intro p e s m args below meth c A hargs hA C hex hmn
  refine jj_lload_n C dX11_in_0 rfl ?_
  refine jj_lload_n C dX11_in_1 rfl ?_
  refine jj_lcmp_lt (tgt := 17) C dX11_in_2 dX11_in_3 (by decide) (fun c_1 => ?_) (fun c_1 => ?_)
  · refine jj_iconst (v := 0) C dX11_in_17 (by decide) ?_
    exact jj_zret C rfl (Or.inl ⟨c_1, rfl, rfl⟩) dX11_in_18 (jj_le rfl) (jj_le rfl)
  · refine jj_lload_n C dX11_in_6 rfl ?_
    refine jj_lload C dX11_in_7 rfl ?_
    refine jj_lcmp_gt (tgt := 17) C dX11_in_9 dX11_in_10 (by decide) (fun c_2 => ?_) (fun c_2 => ?_)
    · refine jj_iconst (v := 0) C dX11_in_17 (by decide) ?_
      exact jj_zret C rfl (Or.inr (Or.inl ⟨c_1, c_2, rfl, rfl⟩)) dX11_in_18 (jj_le rfl) (jj_le rfl)
    · refine jj_iconst (v := 1) C dX11_in_13 (by decide) ?_
      refine jj_goto (tgt := 18) C dX11_in_14 (by decide) ?_
      exact jj_zret C rfl (Or.inr (Or.inr ⟨c_1, c_2, rfl, rfl⟩)) dX11_in_18 (jj_le rfl) (jj_le rfl)


set_option maxHeartbeats 4000000 in
set_option maxRecDepth 100000 in
theorem ct_X11_isAmount_1 {l : Launch} (hl : l.stackTraces = false) (D : va_G) (cA : Nat → ClassId) (ak : (Nat → Nat) × (Nat → Nat)) (a0 : Int32) : jj_M l D cA ak yX11_isAmount (.code yX11_isAmount cX11_isAmount 1 (some .boolean)) 1 25 0 0 [] [.int a0] (fun (w : va_W) (r : Option Value) => (a0.toInt64 < 1 ∧ w = [] ∧ r = some (.int 0)) ∨ (¬ a0.toInt64 < 1 ∧ 9999999 < a0.toInt64 ∧ w = [] ∧ r = some (.int 0)) ∨ (¬ a0.toInt64 < 1 ∧ ¬ 9999999 < a0.toInt64 ∧ w = [] ∧ r = some (.int 1))) jj_noX := by
  refine jj_start hl (by decide) jw_316 (jj_le rfl) ?_
  intro p e s m args below meth c A hargs hA C hex hmn
  refine jj_iload_n C dX11_isAmount_0 rfl ?_
  refine jj_i2l C dX11_isAmount_1 rfl ?_
  refine jj_lconst (v := 1) C dX11_isAmount_2 (by decide) ?_
  refine jj_ldc2 (v := 9999999) C dX11_isAmount_3 jw_315 ?_
  refine jq_callS (rest := []) C (ct_X11_in_2 hl D cA ak a0.toInt64) [] [] rfl rfl (by decide) (by decide) (by decide) jw_247 jw_248 jw_224 jw_246 jn_X11_in rfl (jj_le rfl) (jj_le rfl) (jj_le rfl) (jj_le rfl) (jj_le rfl) dX11_isAmount_6 rfl (fun _ _ hX => hX.elim) (fun w1 r O_2 => ?_)
  rcases O_2 with ⟨c_3, rfl, rfl⟩ | ⟨c_4, c_5, rfl, rfl⟩ | ⟨c_6, c_7, rfl, rfl⟩
  · refine jj_apd rfl ?_
    exact jj_zret C rfl (Or.inl ⟨c_3, rfl, rfl⟩) dX11_isAmount_9 (jj_le rfl) (jj_le rfl)
  · refine jj_apd rfl ?_
    exact jj_zret C rfl (Or.inr (Or.inl ⟨c_4, c_5, rfl, rfl⟩)) dX11_isAmount_9 (jj_le rfl) (jj_le rfl)
  · refine jj_apd rfl ?_
    exact jj_zret C rfl (Or.inr (Or.inr ⟨c_6, c_7, rfl, rfl⟩)) dX11_isAmount_9 (jj_le rfl) (jj_le rfl)


set_option maxHeartbeats 4000000 in
set_option maxRecDepth 100000 in
theorem ct_X11_fails_3 {l : Launch} (hl : l.stackTraces = false) (D : va_G) (cA : Nat → ClassId) (ak : (Nat → Nat) × (Nat → Nat)) (h0 h1 h2 h3 h4 h5 h6 h7 h8 h9 h10 h11 h12 : Nat) : jj_M l D cA ak yX11_fails (.code yX11_fails cX11_fails 3 (some .boolean)) 0 0 0 0 [(h0, .inr (12, [.ref h1, .ref h2, .ref h3, .ref h4, .ref h5, .ref h6, .int 0, .int 0, .long 0, .long 0, .ref h7, .ref h8, .ref h9, .int 0, .int 0, .int 0, .int 0, .int 0, .int (-1), .int 0, .int 0, .ref h10, .ref h11, .ref h12, .int 0]))] [.ref h0, .int 1, .int 2] (fun (w : va_W) (r : Option Value) => (w = [(h0, .inr (12, [.ref h1, .ref h2, .ref h3, .ref h4, .ref h5, .ref h6, .int 0, .int 2, .long 0, .long 0, .ref h7, .ref h8, .ref h9, .int 0, .int 0, .int 0, .int 0, .int 0, .int (-1), .int 0, .int 0, .ref h10, .ref h11, .ref h12, .int 0]))] ∧ r = some (.int 1))) jj_noX := by
  refine jj_start hl (by decide) jw_305 (jj_le rfl) ?_
  intro p e s m args below meth c A hargs hA C hex hmn
  refine jj_aload_n C dX11_fails_0 rfl ?_
  refine jj_iload_n C dX11_fails_1 rfl ?_
  refine jj_if_eqF (tgt := 9) C dX11_fails_2 (by decide) (by decide) ?_
  refine jj_iload_n C dX11_fails_5 rfl ?_
  refine jj_goto (tgt := 10) C dX11_fails_6 (by decide) ?_
  refine jj_put C jk_12 7 (by decide) jw_236 rfl 0 rfl rfl rfl rfl rfl dX11_fails_10 ?_
  refine jj_iload_n C dX11_fails_13 rfl ?_
  exact jj_zret C rfl ⟨rfl, rfl⟩ dX11_fails_14 (jj_le rfl) (jj_le rfl)


set_option maxHeartbeats 4000000 in
set_option maxRecDepth 100000 in
theorem ct_X11_fails_4 {l : Launch} (hl : l.stackTraces = false) (D : va_G) (cA : Nat → ClassId) (ak : (Nat → Nat) × (Nat → Nat)) (h0 h1 h2 h3 h4 h5 h6 h7 h8 h9 h10 h11 h12 : Nat) : jj_M l D cA ak yX11_fails (.code yX11_fails cX11_fails 3 (some .boolean)) 0 0 0 0 [(h0, .inr (12, [.ref h1, .ref h2, .ref h3, .ref h4, .ref h5, .ref h6, .int 0, .int 0, .long 0, .long 0, .ref h7, .ref h8, .ref h9, .int 0, .int 0, .int 0, .int 0, .int 0, .int (-1), .int 0, .int 0, .ref h10, .ref h11, .ref h12, .int 0]))] [.ref h0, .int 0, .int 2] (fun (w : va_W) (r : Option Value) => (w = [(h0, .inr (12, [.ref h1, .ref h2, .ref h3, .ref h4, .ref h5, .ref h6, .int 0, .int 0, .long 0, .long 0, .ref h7, .ref h8, .ref h9, .int 0, .int 0, .int 0, .int 0, .int 0, .int (-1), .int 0, .int 0, .ref h10, .ref h11, .ref h12, .int 0]))] ∧ r = some (.int 0))) jj_noX := by
  refine jj_start hl (by decide) jw_305 (jj_le rfl) ?_
  intro p e s m args below meth c A hargs hA C hex hmn
  refine jj_aload_n C dX11_fails_0 rfl ?_
  refine jj_iload_n C dX11_fails_1 rfl ?_
  refine jj_if_eqT (tgt := 9) C dX11_fails_2 (by decide) (by decide) ?_
  refine jj_iconst (v := 0) C dX11_fails_9 (by decide) ?_
  refine jj_put C jk_12 7 (by decide) jw_236 rfl 0 rfl rfl rfl rfl rfl dX11_fails_10 ?_
  refine jj_iload_n C dX11_fails_13 rfl ?_
  exact jj_zret C rfl ⟨rfl, rfl⟩ dX11_fails_14 (jj_le rfl) (jj_le rfl)


set_option maxHeartbeats 4000000 in
set_option maxRecDepth 100000 in
theorem ct_X11_isFull_1 {l : Launch} (hl : l.stackTraces = false) (D : va_G) (cA : Nat → ClassId) (ak : (Nat → Nat) × (Nat → Nat)) (h0 h1 h2 h3 h4 h5 h6 h7 h8 h9 h10 h11 h12 : Nat) : jj_M l D cA ak yX11_isFull (.code yX11_isFull cX11_isFull 1 (some .boolean)) 0 0 0 0 [(h0, .inr (12, [.ref h1, .ref h2, .ref h3, .ref h4, .ref h5, .ref h6, .int 0, .int 0, .long 0, .long 0, .ref h7, .ref h8, .ref h9, .int 0, .int 0, .int 0, .int 0, .int 0, .int (-1), .int 0, .int 0, .ref h10, .ref h11, .ref h12, .int 0])), (h1, .inl (cA 2, 334, .inr (.inl (vp_updL (vp_updL (fun _ => 0) 0 1) 4 100))))] [.ref h0] (fun (w : va_W) (r : Option Value) => (w = [(h0, .inr (12, [.ref h1, .ref h2, .ref h3, .ref h4, .ref h5, .ref h6, .int 0, .int 0, .long 0, .long 0, .ref h7, .ref h8, .ref h9, .int 0, .int 0, .int 0, .int 0, .int 0, .int (-1), .int 0, .int 0, .ref h10, .ref h11, .ref h12, .int 0])), (h1, .inl (cA 2, 334, .inr (.inl (vp_updL (vp_updL (fun _ => 0) 0 1) 4 100))))] ∧ r = some (.int 0))) jj_noX := by
  refine jj_start hl (by decide) jw_321 (jj_le rfl) ?_
  intro p e s m args below meth c A hargs hA C hex hmn
  refine jj_aload_n C dX11_isFull_0 rfl ?_
  refine jj_get C jk_12 0 (by decide) jw_181 0 rfl rfl dX11_isFull_1 ?_
  refine jj_bipush (v := 8) C dX11_isFull_4 (by decide) ?_
  refine jj_lald (v := 0) C 1 rfl (vp_in_iff.mpr (by decide)) rfl dX11_isFull_6 ?_
  refine jj_ldc2 (v := 12) C dX11_isFull_7 jw_320 ?_
  refine jj_lcmp_neT (tgt := 18) C dX11_isFull_10 dX11_isFull_11 (by decide) (by decide) ?_
  refine jj_iconst (v := 0) C dX11_isFull_18 (by decide) ?_
  exact jj_zret C rfl ⟨rfl, rfl⟩ dX11_isFull_19 (jj_le rfl) (jj_le rfl)


set_option maxHeartbeats 4000000 in
set_option maxRecDepth 100000 in
theorem ct_X11_fails_5 {l : Launch} (hl : l.stackTraces = false) (D : va_G) (cA : Nat → ClassId) (ak : (Nat → Nat) × (Nat → Nat)) (h0 h1 h2 h3 h4 h5 h6 h7 h8 h9 h10 h11 h12 : Nat) : jj_M l D cA ak yX11_fails (.code yX11_fails cX11_fails 3 (some .boolean)) 0 0 0 0 [(h0, .inr (12, [.ref h1, .ref h2, .ref h3, .ref h4, .ref h5, .ref h6, .int 0, .int 0, .long 0, .long 0, .ref h7, .ref h8, .ref h9, .int 0, .int 0, .int 0, .int 0, .int 0, .int (-1), .int 0, .int 0, .ref h10, .ref h11, .ref h12, .int 0]))] [.ref h0, .int 0, .int 3] (fun (w : va_W) (r : Option Value) => (w = [(h0, .inr (12, [.ref h1, .ref h2, .ref h3, .ref h4, .ref h5, .ref h6, .int 0, .int 0, .long 0, .long 0, .ref h7, .ref h8, .ref h9, .int 0, .int 0, .int 0, .int 0, .int 0, .int (-1), .int 0, .int 0, .ref h10, .ref h11, .ref h12, .int 0]))] ∧ r = some (.int 0))) jj_noX := by
  refine jj_start hl (by decide) jw_305 (jj_le rfl) ?_
  intro p e s m args below meth c A hargs hA C hex hmn
  refine jj_aload_n C dX11_fails_0 rfl ?_
  refine jj_iload_n C dX11_fails_1 rfl ?_
  refine jj_if_eqT (tgt := 9) C dX11_fails_2 (by decide) (by decide) ?_
  refine jj_iconst (v := 0) C dX11_fails_9 (by decide) ?_
  refine jj_put C jk_12 7 (by decide) jw_236 rfl 0 rfl rfl rfl rfl rfl dX11_fails_10 ?_
  refine jj_iload_n C dX11_fails_13 rfl ?_
  exact jj_zret C rfl ⟨rfl, rfl⟩ dX11_fails_14 (jj_le rfl) (jj_le rfl)


set_option maxHeartbeats 4000000 in
set_option maxRecDepth 100000 in
theorem ct_X11_copy_1 {l : Launch} (hl : l.stackTraces = false) (D : va_G) (cA : Nat → ClassId) (ak : (Nat → Nat) × (Nat → Nat)) (h0 h1 : Nat) (f0 : Nat → Int64) (f1 : Nat → Int64) : jj_M l D cA ak yX11_copy (.code yX11_copy cX11_copy 3 none) 0 0 0 0 [(h0, .inl (cA 2, 334, .inr (.inl f0))), (h1, .inl (cA 2, 334, .inr (.inl f1)))] [.ref h0, .ref h1] (fun (w : va_W) (r : Option Value) => (w = [(h0, .inl (cA 2, 334, .inr (.inl f0))), (h1, .inl (cA 2, 334, .inr (.inl (jj_cpy f0 f1 334))))] ∧ r = none)) jj_noX := by
  refine jj_start hl (by decide) jw_326 (jj_le rfl) ?_
  intro p e s m args below meth c A hargs hA C hex hmn
  refine jj_iconst (v := 0) C dX11_copy_0 (by decide) ?_
  refine jj_istore_n C dX11_copy_1 (by decide) rfl ?_
  have hL1 : ∀ (n i : Nat), i + n = 334 → jj_J p l e (jj_rm 0 0 0 0) s m args below meth c 3 A (vx_MQ below (jj_q D A (fun (w : va_W) (r : Option Value) => (w = [(h0, .inl (cA 2, 334, .inr (.inl f0))), (h1, .inl (cA 2, 334, .inr (.inl (jj_cpy f0 f1 334))))] ∧ r = none))) (jj_x D A jj_noX) args s 0 0 A) (jj_X D A [(h0, .inl (cA 2, 334, .inr (.inl f0))), (h1, .inl (cA 2, 334, .inr (.inl (jj_cpy f0 f1 i))))]) 0 0 2 [(2, .int (nI i)), (0, .ref h0), (1, .ref h1)] [] := by
    intro n
    induction n with
    | zero =>
      intro i hin
      obtain rfl : i = 334 := by omega
      show jj_J p l e (jj_rm 0 0 0 0) s m args below meth c 3 A (vx_MQ below (jj_q D A (fun (w : va_W) (r : Option Value) => (w = [(h0, .inl (cA 2, 334, .inr (.inl f0))), (h1, .inl (cA 2, 334, .inr (.inl (jj_cpy f0 f1 334))))] ∧ r = none))) (jj_x D A jj_noX) args s 0 0 A) (jj_X D A [(h0, .inl (cA 2, 334, .inr (.inl f0))), (h1, .inl (cA 2, 334, .inr (.inl (jj_cpy f0 f1 334))))]) 0 0 2 [(2, .int 334), (0, .ref h0), (1, .ref h1)] []
      refine jj_iload_n C dX11_copy_2 rfl ?_
      refine jj_sipush (v := 334) C dX11_copy_3 (by decide) ?_
      refine jj_icmp_geT (tgt := 21) C dX11_copy_6 (by decide) (by decide) ?_
      exact jj_vret C ⟨rfl, rfl⟩ dX11_copy_21 (jj_le rfl) (jj_le rfl)
    | succ n ih =>
      intro i hin
      refine jj_iload_n C dX11_copy_2 rfl ?_
      refine jj_sipush (v := 334) C dX11_copy_3 (by decide) ?_
      refine jj_icmp_geF (tgt := 21) C dX11_copy_6 (by decide) (jj_ixF (i := i) (N := 334) (by omega) (by decide) (by decide)) ?_
      refine jj_aload_n C dX11_copy_9 rfl ?_
      refine jj_iload_n C dX11_copy_10 rfl ?_
      refine jj_aload_n C dX11_copy_11 rfl ?_
      refine jj_iload_n C dX11_copy_12 rfl ?_
      refine jj_lald (v := (f0 ((nI i)).toNatClampNeg)) C 0 rfl (vp_in_nI (by omega) (by decide)) rfl dX11_copy_13 ?_
      refine jj_last C 1 rfl (vp_in_nI (by omega) (by decide)) (g := (vp_updL (jj_cpy f0 f1 i) ((nI i)).toNatClampNeg (f0 ((nI i)).toNatClampNeg))) rfl rfl dX11_copy_14 ?_
      refine jj_iinc (v := nI (i + 1)) C dX11_copy_15 rfl (jj_ni i) (by decide) rfl ?_
      refine jj_goto (tgt := 2) C dX11_copy_18 (by decide) ?_
      rw [jj_cpyS _ _ i (by omega)]
      exact ih (i + 1) (by omega)
  have h9 := hL1 334 0 rfl
  rw [jj_cpy0] at h9
  exact h9


set_option maxHeartbeats 4000000 in
set_option maxRecDepth 100000 in
theorem ct_X11_push_1 {l : Launch} (hl : l.stackTraces = false) (D : va_G) (cA : Nat → ClassId) (ak : (Nat → Nat) × (Nat → Nat)) (h0 h1 h2 h3 h4 h5 h6 h7 h8 h9 h10 h11 h12 : Nat) : jj_M l D cA ak yX11_push (.code yX11_push cX11_push 2 none) 0 0 0 0 [(h0, .inr (12, [.ref h3, .ref h1, .ref h4, .ref h5, .ref h6, .ref h2, .int 0, .int 0, .long 0, .long 0, .ref h7, .ref h8, .ref h9, .int 0, .int 0, .int 0, .int 0, .int 0, .int (-1), .int 0, .int 0, .ref h10, .ref h11, .ref h12, .int 0])), (h1, .inl (cA 2, 334, .inr (.inl (jj_cpy (vp_updL (vp_updL (fun _ => 0) 0 1) 4 100) (fun _ => 0) 334)))), (h2, .inl (cA 2, 3340, .inr (.inl (fun _ => 0))))] [.ref h0] (fun (w : va_W) (r : Option Value) => (∃ (g : Nat → Int64), w = [(h0, .inr (12, [.ref h3, .ref h1, .ref h4, .ref h5, .ref h6, .ref h2, .int 1, .int 0, .long 0, .long 0, .ref h7, .ref h8, .ref h9, .int 0, .int 0, .int 0, .int 0, .int 0, .int (-1), .int 0, .int 0, .ref h10, .ref h11, .ref h12, .int 0])), (h1, .inl (cA 2, 334, .inr (.inl (jj_cpy (vp_updL (vp_updL (fun _ => 0) 0 1) 4 100) (fun _ => 0) 334)))), (h2, .inl (cA 2, 3340, .inr (.inl g)))] ∧ r = none)) jj_noX := by
  refine jj_start hl (by decide) jw_331 (jj_le rfl) ?_
  intro p e s m args below meth c A hargs hA C hex hmn
  refine jj_aload_n C dX11_push_0 rfl ?_
  refine jj_get C jk_12 6 (by decide) jw_330 0 rfl rfl dX11_push_1 ?_
  refine jj_bipush (v := 10) C dX11_push_4 (by decide) ?_
  refine jj_icmp_neT (tgt := 52) C dX11_push_6 (by decide) (by decide) ?_
  refine jj_iconst (v := 0) C dX11_push_52 (by decide) ?_
  refine jj_istore_n C dX11_push_53 (by decide) rfl ?_
  have hL1 : ∀ (n i : Nat) (g : Nat → Int64), i + n = 334 → jj_J p l e (jj_rm 0 0 0 0) s m args below meth c 2 A (vx_MQ below (jj_q D A (fun (w : va_W) (r : Option Value) => (∃ (g : Nat → Int64), w = [(h0, .inr (12, [.ref h3, .ref h1, .ref h4, .ref h5, .ref h6, .ref h2, .int 1, .int 0, .long 0, .long 0, .ref h7, .ref h8, .ref h9, .int 0, .int 0, .int 0, .int 0, .int 0, .int (-1), .int 0, .int 0, .ref h10, .ref h11, .ref h12, .int 0])), (h1, .inl (cA 2, 334, .inr (.inl (jj_cpy (vp_updL (vp_updL (fun _ => 0) 0 1) 4 100) (fun _ => 0) 334)))), (h2, .inl (cA 2, 3340, .inr (.inl g)))] ∧ r = none))) (jj_x D A jj_noX) args s 0 0 A) (jj_X D A [(h0, .inr (12, [.ref h3, .ref h1, .ref h4, .ref h5, .ref h6, .ref h2, .int 0, .int 0, .long 0, .long 0, .ref h7, .ref h8, .ref h9, .int 0, .int 0, .int 0, .int 0, .int 0, .int (-1), .int 0, .int 0, .ref h10, .ref h11, .ref h12, .int 0])), (h1, .inl (cA 2, 334, .inr (.inl (jj_cpy (vp_updL (vp_updL (fun _ => 0) 0 1) 4 100) (fun _ => 0) 334)))), (h2, .inl (cA 2, 3340, .inr (.inl g)))]) 0 0 54 [(1, .int (nI i)), (0, .ref h0)] [] := by
    intro n
    induction n with
    | zero =>
      intro i g hin
      obtain rfl : i = 334 := by omega
      show jj_J p l e (jj_rm 0 0 0 0) s m args below meth c 2 A (vx_MQ below (jj_q D A (fun (w : va_W) (r : Option Value) => (∃ (g : Nat → Int64), w = [(h0, .inr (12, [.ref h3, .ref h1, .ref h4, .ref h5, .ref h6, .ref h2, .int 1, .int 0, .long 0, .long 0, .ref h7, .ref h8, .ref h9, .int 0, .int 0, .int 0, .int 0, .int 0, .int (-1), .int 0, .int 0, .ref h10, .ref h11, .ref h12, .int 0])), (h1, .inl (cA 2, 334, .inr (.inl (jj_cpy (vp_updL (vp_updL (fun _ => 0) 0 1) 4 100) (fun _ => 0) 334)))), (h2, .inl (cA 2, 3340, .inr (.inl g)))] ∧ r = none))) (jj_x D A jj_noX) args s 0 0 A) (jj_X D A [(h0, .inr (12, [.ref h3, .ref h1, .ref h4, .ref h5, .ref h6, .ref h2, .int 0, .int 0, .long 0, .long 0, .ref h7, .ref h8, .ref h9, .int 0, .int 0, .int 0, .int 0, .int 0, .int (-1), .int 0, .int 0, .ref h10, .ref h11, .ref h12, .int 0])), (h1, .inl (cA 2, 334, .inr (.inl (jj_cpy (vp_updL (vp_updL (fun _ => 0) 0 1) 4 100) (fun _ => 0) 334)))), (h2, .inl (cA 2, 3340, .inr (.inl g)))]) 0 0 54 [(1, .int 334), (0, .ref h0)] []
      refine jj_iload_n C dX11_push_54 rfl ?_
      refine jj_sipush (v := 334) C dX11_push_55 (by decide) ?_
      refine jj_icmp_geT (tgt := 88) C dX11_push_58 (by decide) (by decide) ?_
      refine jj_aload_n C dX11_push_88 rfl ?_
      refine jj_dup C dX11_push_89 rfl ?_
      refine jj_get C jk_12 6 (by decide) jw_330 0 rfl rfl dX11_push_90 ?_
      refine jj_iconst (v := 1) C dX11_push_93 (by decide) ?_
      refine jj_iadd (v := 1) C dX11_push_94 (by decide) ?_
      refine jj_put C jk_12 6 (by decide) jw_330 rfl 0 rfl rfl rfl rfl rfl dX11_push_95 ?_
      exact jj_vret C ⟨g, rfl, rfl⟩ dX11_push_98 (jj_le rfl) (jj_le rfl)
    | succ n ih =>
      intro i g hin
      refine jj_iload_n C dX11_push_54 rfl ?_
      refine jj_sipush (v := 334) C dX11_push_55 (by decide) ?_
      refine jj_icmp_geF (tgt := 88) C dX11_push_58 (by decide) (jj_ixF (i := i) (N := 334) (by omega) (by decide) (by decide)) ?_
      refine jj_aload_n C dX11_push_61 rfl ?_
      refine jj_get C jk_12 5 (by decide) jw_212 0 rfl rfl dX11_push_62 ?_
      refine jj_sipush (v := 334) C dX11_push_65 (by decide) ?_
      refine jj_aload_n C dX11_push_68 rfl ?_
      refine jj_get C jk_12 6 (by decide) jw_330 0 rfl rfl dX11_push_69 ?_
      refine jj_imul (v := 0) C dX11_push_72 (by decide) ?_
      refine jj_iload_n C dX11_push_73 rfl ?_
      refine jj_iadd (v := (nI i)) C dX11_push_74 (Int32.zero_add _) ?_
      refine jj_aload_n C dX11_push_75 rfl ?_
      refine jj_get C jk_12 1 (by decide) jw_208 0 rfl rfl dX11_push_76 ?_
      refine jj_iload_n C dX11_push_79 rfl ?_
      refine jj_lald (v := ((jj_cpy (vp_updL (vp_updL (fun _ => 0) 0 1) 4 100) (fun _ => 0) 334) ((nI i)).toNatClampNeg)) C 1 rfl (vp_in_nI (by omega) (by decide)) rfl dX11_push_80 ?_
      refine jj_last C 2 rfl (vp_in_nI (by omega) (by decide)) (g := (vp_updL g ((nI i)).toNatClampNeg ((jj_cpy (vp_updL (vp_updL (fun _ => 0) 0 1) 4 100) (fun _ => 0) 334) ((nI i)).toNatClampNeg))) rfl rfl dX11_push_81 ?_
      refine jj_iinc (v := nI (i + 1)) C dX11_push_82 rfl (jj_ni i) (by decide) rfl ?_
      refine jj_goto (tgt := 54) C dX11_push_85 (by decide) ?_
      exact ih (i + 1) (vp_updL g ((nI i)).toNatClampNeg ((jj_cpy (vp_updL (vp_updL (fun _ => 0) 0 1) 4 100) (fun _ => 0) 334) ((nI i)).toNatClampNeg)) (by omega)
  exact hL1 334 0 (fun _ => 0) rfl


set_option maxHeartbeats 4000000 in
set_option maxRecDepth 100000 in
theorem ct_X11_remember_1 {l : Launch} (hl : l.stackTraces = false) (D : va_G) (cA : Nat → ClassId) (ak : (Nat → Nat) × (Nat → Nat)) (h0 h1 h2 h3 h4 h5 h6 h7 h8 h9 h10 h11 h12 : Nat) : jj_M l D cA ak yX11_remember (.code yX11_remember cX11_remember 1 none) 1 22 0 0 [(h0, .inr (12, [.ref h1, .ref h2, .ref h4, .ref h5, .ref h6, .ref h3, .int 0, .int 0, .long 0, .long 0, .ref h7, .ref h8, .ref h9, .int 0, .int 0, .int 0, .int 0, .int 0, .int (-1), .int 0, .int 0, .ref h10, .ref h11, .ref h12, .int 0])), (h1, .inl (cA 2, 334, .inr (.inl (vp_updL (vp_updL (fun _ => 0) 0 1) 4 100)))), (h2, .inl (cA 2, 334, .inr (.inl (fun _ => 0)))), (h3, .inl (cA 2, 3340, .inr (.inl (fun _ => 0))))] [.ref h0] (fun (w : va_W) (r : Option Value) => (∃ (f_5 : Nat → Int64), w = [(h1, .inl (cA 2, 334, .inr (.inl (vp_updL (vp_updL (fun _ => 0) 0 1) 4 100)))), (h0, .inr (12, [.ref h1, .ref h2, .ref h4, .ref h5, .ref h6, .ref h3, .int 1, .int 0, .long 0, .long 0, .ref h7, .ref h8, .ref h9, .int 0, .int 0, .int 0, .int 0, .int 0, .int (-1), .int 0, .int 0, .ref h10, .ref h11, .ref h12, .int 0])), (h2, .inl (cA 2, 334, .inr (.inl (jj_cpy (vp_updL (vp_updL (fun _ => 0) 0 1) 4 100) (fun _ => 0) 334)))), (h3, .inl (cA 2, 3340, .inr (.inl f_5)))] ∧ r = none)) jj_noX := by
  refine jj_start hl (by decide) jw_336 (jj_le rfl) ?_
  intro p e s m args below meth c A hargs hA C hex hmn
  refine jj_aload_n C dX11_remember_0 rfl ?_
  refine jj_get C jk_12 0 (by decide) jw_181 0 rfl rfl dX11_remember_1 ?_
  refine jj_aload_n C dX11_remember_4 rfl ?_
  refine jj_get C jk_12 1 (by decide) jw_208 0 rfl rfl dX11_remember_5 ?_
  refine jq_callS (rest := []) C (ct_X11_copy_1 hl D cA ak h1 h2 (vp_updL (vp_updL (fun _ => 0) 0 1) 4 100) (fun _ => 0)) [1, 2] [0, 3] rfl rfl (by decide) (by decide) (by decide) jw_327 jw_328 jw_224 jw_326 jn_X11_copy rfl (jj_le rfl) (jj_le rfl) (jj_le rfl) (jj_le rfl) (jj_le rfl) dX11_remember_8 rfl (fun _ _ hX => hX.elim) (fun w1 r O_2 => ?_)
  obtain ⟨rfl, rfl⟩ := O_2
  refine jj_apd rfl ?_
  refine jj_aload_n C dX11_remember_11 rfl ?_
  refine jq_callV (rest := []) C (ct_X11_push_1 hl D cA ak h0 h2 h3 h1 h4 h5 h6 h7 h8 h9 h10 h11 h12) [0, 3, 1] [2] rfl rfl (by decide) (by decide) (by decide) 0 rfl rfl rfl jw_332 jw_333 jw_334 jw_224 jw_331 jn_X11_push rfl (jj_le rfl) (jj_le rfl) (jj_le rfl) (jj_le rfl) (jj_le rfl) dX11_remember_12 rfl (fun _ _ hX => hX.elim) (fun w1 r O_4 => ?_)
  obtain ⟨f_5, rfl, rfl⟩ := O_4
  refine jj_apd rfl ?_
  exact jj_vret C ⟨f_5, rfl, rfl⟩ dX11_remember_15 (jj_le rfl) (jj_le rfl)


set_option maxHeartbeats 4000000 in
set_option maxRecDepth 100000 in
theorem ct_X11_requestAt_1 {l : Launch} (hl : l.stackTraces = false) (D : va_G) (cA : Nat → ClassId) (ak : (Nat → Nat) × (Nat → Nat)) : jj_M l D cA ak yX11_requestAt (.code yX11_requestAt cX11_requestAt 1 (some .int)) 0 0 0 0 [] [.int 0] (fun (w : va_W) (r : Option Value) => (w = [] ∧ r = some (.int 286))) jj_noX := by
  refine jj_start hl (by decide) jw_341 (jj_le rfl) ?_
  intro p e s m args below meth c A hargs hA C hex hmn
  refine jj_sipush (v := 286) C dX11_requestAt_0 (by decide) ?_
  refine jj_iconst (v := 4) C dX11_requestAt_3 (by decide) ?_
  refine jj_iload_n C dX11_requestAt_4 rfl ?_
  refine jj_imul (v := 0) C dX11_requestAt_5 (by decide) ?_
  refine jj_iadd (v := 286) C dX11_requestAt_6 (by decide) ?_
  exact jj_iret C ⟨rfl, rfl⟩ dX11_requestAt_7 (jj_le rfl) (jj_le rfl)


set_option maxHeartbeats 4000000 in
set_option maxRecDepth 100000 in
theorem ct_X11_ask_1 {l : Launch} (hl : l.stackTraces = false) (D : va_G) (cA : Nat → ClassId) (ak : (Nat → Nat) × (Nat → Nat)) (h0 h1 h2 h3 h4 h5 h6 h7 h8 h9 h10 h11 h12 : Nat) (a0 : Int32) (b1 : Int64) : jj_M l D cA ak yX11_ask (.code yX11_ask cX11_ask 8 none) 1 20 0 0 [(h0, .inr (12, [.ref h1, .ref h2, .ref h3, .ref h4, .ref h5, .ref h6, .int 1, .int 0, .long 0, .long 0, .ref h7, .ref h8, .ref h9, .int 0, .int 0, .int 0, .int 0, .int 0, .int (-1), .int 0, .int 0, .ref h10, .ref h11, .ref h12, .int 0])), (h1, .inl (cA 2, 334, .inr (.inl (vp_updL (vp_updL (fun _ => 0) 0 1) 4 100))))] [.ref h0, .ref h1, .int a0, .long 0, .long b1] (fun (w : va_W) (r : Option Value) => (w = [(h0, .inr (12, [.ref h1, .ref h2, .ref h3, .ref h4, .ref h5, .ref h6, .int 1, .int 0, .long 0, .long 0, .ref h7, .ref h8, .ref h9, .int 0, .int 0, .int 0, .int 0, .int 0, .int (-1), .int 0, .int 0, .ref h10, .ref h11, .ref h12, .int 0])), (h1, .inl (cA 2, 334, .inr (.inl (vp_updL (vp_updL (vp_updL (vp_updL (vp_updL (vp_updL (vp_updL (fun _ => 0) 0 1) 4 100) 286 a0.toInt64) 287 0) 288 b1) 289 0) 8 1))))] ∧ r = none)) jj_noX := by
  refine jj_start hl (by decide) jw_345 (jj_le rfl) ?_
  intro p e s m args below meth c A hargs hA C hex hmn
  refine jj_aload_n C dX11_ask_0 rfl ?_
  refine jj_bipush (v := 8) C dX11_ask_1 (by decide) ?_
  refine jj_lald (v := 0) C 1 rfl (vp_in_iff.mpr (by decide)) rfl dX11_ask_3 ?_
  refine jj_l2i (v := 0) C dX11_ask_4 (by decide) ?_
  refine jq_callS (rest := []) C (ct_X11_requestAt_1 hl D cA ak) [] [0, 1] rfl rfl (by decide) (by decide) (by decide) jw_342 jw_343 jw_224 jw_341 jn_X11_requestAt rfl (jj_le rfl) (jj_le rfl) (jj_le rfl) (jj_le rfl) (jj_le rfl) dX11_ask_5 rfl (fun _ _ hX => hX.elim) (fun w1 r O_2 => ?_)
  obtain ⟨rfl, rfl⟩ := O_2
  refine jj_apd rfl ?_
  refine jj_istore C dX11_ask_8 (by decide) rfl ?_
  refine jj_aload_n C dX11_ask_10 rfl ?_
  refine jj_iload C dX11_ask_11 rfl ?_
  refine jj_iconst (v := 0) C dX11_ask_13 (by decide) ?_
  refine jj_iadd (v := 286) C dX11_ask_14 (by decide) ?_
  refine jj_iload_n C dX11_ask_15 rfl ?_
  refine jj_i2l C dX11_ask_16 rfl ?_
  refine jj_last C 1 rfl (vp_in_iff.mpr (by decide)) (g := (vp_updL (vp_updL (vp_updL (fun _ => 0) 0 1) 4 100) 286 a0.toInt64)) rfl rfl dX11_ask_17 ?_
  refine jj_aload_n C dX11_ask_18 rfl ?_
  refine jj_iload C dX11_ask_19 rfl ?_
  refine jj_iconst (v := 1) C dX11_ask_21 (by decide) ?_
  refine jj_iadd (v := 287) C dX11_ask_22 (by decide) ?_
  refine jj_lload_n C dX11_ask_23 rfl ?_
  refine jj_last C 1 rfl (vp_in_iff.mpr (by decide)) (g := (vp_updL (vp_updL (vp_updL (vp_updL (fun _ => 0) 0 1) 4 100) 286 a0.toInt64) 287 0)) rfl rfl dX11_ask_24 ?_
  refine jj_aload_n C dX11_ask_25 rfl ?_
  refine jj_iload C dX11_ask_26 rfl ?_
  refine jj_iconst (v := 2) C dX11_ask_28 (by decide) ?_
  refine jj_iadd (v := 288) C dX11_ask_29 (by decide) ?_
  refine jj_lload C dX11_ask_30 rfl ?_
  refine jj_last C 1 rfl (vp_in_iff.mpr (by decide)) (g := (vp_updL (vp_updL (vp_updL (vp_updL (vp_updL (fun _ => 0) 0 1) 4 100) 286 a0.toInt64) 287 0) 288 b1)) rfl rfl dX11_ask_32 ?_
  refine jj_aload_n C dX11_ask_33 rfl ?_
  refine jj_iload C dX11_ask_34 rfl ?_
  refine jj_iconst (v := 3) C dX11_ask_36 (by decide) ?_
  refine jj_iadd (v := 289) C dX11_ask_37 (by decide) ?_
  refine jj_aload_n C dX11_ask_38 rfl ?_
  refine jj_iconst (v := 5) C dX11_ask_39 (by decide) ?_
  refine jj_lald (v := 0) C 1 rfl (vp_in_iff.mpr (by decide)) rfl dX11_ask_40 ?_
  refine jj_last C 1 rfl (vp_in_iff.mpr (by decide)) (g := (vp_updL (vp_updL (vp_updL (vp_updL (vp_updL (vp_updL (fun _ => 0) 0 1) 4 100) 286 a0.toInt64) 287 0) 288 b1) 289 0)) rfl rfl dX11_ask_41 ?_
  refine jj_aload_n C dX11_ask_42 rfl ?_
  refine jj_bipush (v := 8) C dX11_ask_43 (by decide) ?_
  refine jj_dup2 C dX11_ask_45 rfl rfl ?_
  refine jj_lald (v := 0) C 1 rfl (vp_in_iff.mpr (by decide)) rfl dX11_ask_46 ?_
  refine jj_lconst (v := 1) C dX11_ask_47 (by decide) ?_
  refine jj_ladd (v := 1) C dX11_ask_48 (by decide) ?_
  refine jj_last C 1 rfl (vp_in_iff.mpr (by decide)) (g := (vp_updL (vp_updL (vp_updL (vp_updL (vp_updL (vp_updL (vp_updL (fun _ => 0) 0 1) 4 100) 286 a0.toInt64) 287 0) 288 b1) 289 0) 8 1)) rfl rfl dX11_ask_49 ?_
  exact jj_vret C ⟨rfl, rfl⟩ dX11_ask_50 (jj_le rfl) (jj_le rfl)


set_option maxHeartbeats 4000000 in
set_option maxRecDepth 100000 in
theorem ct_X11_subscribe_1 {l : Launch} (hl : l.stackTraces = false) (D : va_G) (cA : Nat → ClassId) (ak : (Nat → Nat) × (Nat → Nat)) (h0 h1 h2 h3 h4 h5 h6 h7 h8 h9 h10 h11 h12 : Nat) (a0 : Int32) (a1 : Int32) : jj_M l D cA ak yX11_subscribe (.code yX11_subscribe cX11_subscribe 3 (some .int)) 3 67 0 0 [(h0, .inr (12, [.ref h1, .ref h2, .ref h4, .ref h5, .ref h6, .ref h3, .int 0, .int 0, .long 0, .long 0, .ref h7, .ref h8, .ref h9, .int 0, .int 0, .int 0, .int 0, .int 0, .int (-1), .int 0, .int 0, .ref h10, .ref h11, .ref h12, .int 0])), (h1, .inl (cA 2, 334, .inr (.inl (vp_updL (vp_updL (fun _ => 0) 0 1) 4 100)))), (h2, .inl (cA 2, 334, .inr (.inl (fun _ => 0)))), (h3, .inl (cA 2, 3340, .inr (.inl (fun _ => 0))))] [.ref h0, .int a0, .int a1] (fun (w : va_W) (r : Option Value) => (a0.toInt64 < 0 ∧ w = [(h2, .inl (cA 2, 334, .inr (.inl (fun _ => 0)))), (h3, .inl (cA 2, 3340, .inr (.inl (fun _ => 0)))), (h1, .inl (cA 2, 334, .inr (.inl (vp_updL (vp_updL (fun _ => 0) 0 1) 4 100)))), (h0, .inr (12, [.ref h1, .ref h2, .ref h4, .ref h5, .ref h6, .ref h3, .int 0, .int 1, .long 0, .long 0, .ref h7, .ref h8, .ref h9, .int 0, .int 0, .int 0, .int 0, .int 0, .int (-1), .int 0, .int 0, .ref h10, .ref h11, .ref h12, .int 0]))] ∧ r = some (.int 0)) ∨ (¬ a0.toInt64 < 0 ∧ 0 < a0.toInt64 ∧ w = [(h2, .inl (cA 2, 334, .inr (.inl (fun _ => 0)))), (h3, .inl (cA 2, 3340, .inr (.inl (fun _ => 0)))), (h1, .inl (cA 2, 334, .inr (.inl (vp_updL (vp_updL (fun _ => 0) 0 1) 4 100)))), (h0, .inr (12, [.ref h1, .ref h2, .ref h4, .ref h5, .ref h6, .ref h3, .int 0, .int 1, .long 0, .long 0, .ref h7, .ref h8, .ref h9, .int 0, .int 0, .int 0, .int 0, .int 0, .int (-1), .int 0, .int 0, .ref h10, .ref h11, .ref h12, .int 0]))] ∧ r = some (.int 0)) ∨ (¬ a0.toInt64 < 0 ∧ ¬ 0 < a0.toInt64 ∧ a1.toInt64 < 1 ∧ w = [(h2, .inl (cA 2, 334, .inr (.inl (fun _ => 0)))), (h3, .inl (cA 2, 3340, .inr (.inl (fun _ => 0)))), (h1, .inl (cA 2, 334, .inr (.inl (vp_updL (vp_updL (fun _ => 0) 0 1) 4 100)))), (h0, .inr (12, [.ref h1, .ref h2, .ref h4, .ref h5, .ref h6, .ref h3, .int 0, .int 2, .long 0, .long 0, .ref h7, .ref h8, .ref h9, .int 0, .int 0, .int 0, .int 0, .int 0, .int (-1), .int 0, .int 0, .ref h10, .ref h11, .ref h12, .int 0]))] ∧ r = some (.int 0)) ∨ (¬ a0.toInt64 < 0 ∧ ¬ 0 < a0.toInt64 ∧ ¬ a1.toInt64 < 1 ∧ 9999999 < a1.toInt64 ∧ w = [(h2, .inl (cA 2, 334, .inr (.inl (fun _ => 0)))), (h3, .inl (cA 2, 3340, .inr (.inl (fun _ => 0)))), (h1, .inl (cA 2, 334, .inr (.inl (vp_updL (vp_updL (fun _ => 0) 0 1) 4 100)))), (h0, .inr (12, [.ref h1, .ref h2, .ref h4, .ref h5, .ref h6, .ref h3, .int 0, .int 2, .long 0, .long 0, .ref h7, .ref h8, .ref h9, .int 0, .int 0, .int 0, .int 0, .int 0, .int (-1), .int 0, .int 0, .ref h10, .ref h11, .ref h12, .int 0]))] ∧ r = some (.int 0)) ∨ (∃ (f_27 : Nat → Int64), ¬ a0.toInt64 < 0 ∧ ¬ 0 < a0.toInt64 ∧ ¬ a1.toInt64 < 1 ∧ ¬ 9999999 < a1.toInt64 ∧ w = [(h2, .inl (cA 2, 334, .inr (.inl (jj_cpy (vp_updL (vp_updL (fun _ => 0) 0 1) 4 100) (fun _ => 0) 334)))), (h3, .inl (cA 2, 3340, .inr (.inl f_27))), (h0, .inr (12, [.ref h1, .ref h2, .ref h4, .ref h5, .ref h6, .ref h3, .int 1, .int 0, .long 0, .long 0, .ref h7, .ref h8, .ref h9, .int 0, .int 0, .int 0, .int 0, .int 0, .int (-1), .int 0, .int 0, .ref h10, .ref h11, .ref h12, .int 0])), (h1, .inl (cA 2, 334, .inr (.inl (vp_updL (vp_updL (vp_updL (vp_updL (vp_updL (vp_updL (vp_updL (fun _ => 0) 0 1) 4 100) 286 a0.toInt64) 287 0) 288 a1.toInt64) 289 0) 8 1))))] ∧ r = some (.int 0))) jj_noX := by
  refine jj_start hl (by decide) jw_350 (jj_le rfl) ?_
  intro p e s m args below meth c A hargs hA C hex hmn
  refine jj_aload_n C dX11_subscribe_0 rfl ?_
  refine jj_iload_n C dX11_subscribe_1 rfl ?_
  refine jq_callV (rest := []) C (ct_X11_isNoInvestor_1 hl D cA ak h0 h1 h2 h4 h5 h6 h3 h7 h8 h9 h10 h11 h12 a0) [0, 1] [2, 3] rfl rfl (by decide) (by decide) (by decide) 0 rfl rfl rfl jw_311 jw_312 jw_313 jw_224 jw_310 jn_X11_isNoInvestor rfl (jj_le rfl) (jj_le rfl) (jj_le rfl) (jj_le rfl) (jj_le rfl) dX11_subscribe_2 rfl (fun _ _ hX => hX.elim) (fun w1 r O_2 => ?_)
  rcases O_2 with ⟨c_3, rfl, rfl⟩ | ⟨c_4, c_5, rfl, rfl⟩ | ⟨c_6, c_7, rfl, rfl⟩
  · refine jj_apd rfl ?_
    refine jj_if_neT (tgt := 40) C dX11_subscribe_5 (by decide) (by decide) ?_
    refine jj_iconst (v := 0) C dX11_subscribe_40 (by decide) ?_
    exact jj_iret C (Or.inl ⟨c_3, rfl, rfl⟩) dX11_subscribe_41 (jj_le rfl) (jj_le rfl)
  · refine jj_apd rfl ?_
    refine jj_if_neT (tgt := 40) C dX11_subscribe_5 (by decide) (by decide) ?_
    refine jj_iconst (v := 0) C dX11_subscribe_40 (by decide) ?_
    exact jj_iret C (Or.inr (Or.inl ⟨c_4, c_5, rfl, rfl⟩)) dX11_subscribe_41 (jj_le rfl) (jj_le rfl)
  · refine jj_apd rfl ?_
    refine jj_if_neF (tgt := 40) C dX11_subscribe_5 (by decide) (by decide) ?_
    refine jj_aload_n C dX11_subscribe_8 rfl ?_
    refine jj_iload_n C dX11_subscribe_9 rfl ?_
    refine jq_callS (rest := [.ref h0]) C (ct_X11_isAmount_1 hl D cA ak a1) [] [0, 1, 2, 3] rfl rfl (by decide) (by decide) (by decide) jw_317 jw_318 jw_224 jw_316 jn_X11_isAmount rfl (jj_le rfl) (jj_le rfl) (jj_le rfl) (jj_le rfl) (jj_le rfl) dX11_subscribe_10 rfl (fun _ _ hX => hX.elim) (fun w1 r O_9 => ?_)
    rcases O_9 with ⟨c_10, rfl, rfl⟩ | ⟨c_11, c_12, rfl, rfl⟩ | ⟨c_13, c_14, rfl, rfl⟩
    · refine jj_apd rfl ?_
      refine jj_if_neF (tgt := 20) C dX11_subscribe_13 (by decide) (by decide) ?_
      refine jj_iconst (v := 1) C dX11_subscribe_16 (by decide) ?_
      refine jj_goto (tgt := 21) C dX11_subscribe_17 (by decide) ?_
      refine jj_iconst (v := 2) C dX11_subscribe_21 (by decide) ?_
      refine jq_callV (rest := []) C (ct_X11_fails_3 hl D cA ak h0 h1 h2 h4 h5 h6 h3 h7 h8 h9 h10 h11 h12) [3] [0, 1, 2] rfl rfl (by decide) (by decide) (by decide) 0 rfl rfl rfl jw_306 jw_307 jw_308 jw_224 jw_305 jn_X11_fails rfl (jj_le rfl) (jj_le rfl) (jj_le rfl) (jj_le rfl) (jj_le rfl) dX11_subscribe_22 rfl (fun _ _ hX => hX.elim) (fun w1 r O_16 => ?_)
      obtain ⟨rfl, rfl⟩ := O_16
      refine jj_apd rfl ?_
      refine jj_if_neT (tgt := 40) C dX11_subscribe_25 (by decide) (by decide) ?_
      refine jj_iconst (v := 0) C dX11_subscribe_40 (by decide) ?_
      exact jj_iret C (Or.inr (Or.inr (Or.inl ⟨c_6, c_7, c_10, rfl, rfl⟩))) dX11_subscribe_41 (jj_le rfl) (jj_le rfl)
    · refine jj_apd rfl ?_
      refine jj_if_neF (tgt := 20) C dX11_subscribe_13 (by decide) (by decide) ?_
      refine jj_iconst (v := 1) C dX11_subscribe_16 (by decide) ?_
      refine jj_goto (tgt := 21) C dX11_subscribe_17 (by decide) ?_
      refine jj_iconst (v := 2) C dX11_subscribe_21 (by decide) ?_
      refine jq_callV (rest := []) C (ct_X11_fails_3 hl D cA ak h0 h1 h2 h4 h5 h6 h3 h7 h8 h9 h10 h11 h12) [3] [0, 1, 2] rfl rfl (by decide) (by decide) (by decide) 0 rfl rfl rfl jw_306 jw_307 jw_308 jw_224 jw_305 jn_X11_fails rfl (jj_le rfl) (jj_le rfl) (jj_le rfl) (jj_le rfl) (jj_le rfl) dX11_subscribe_22 rfl (fun _ _ hX => hX.elim) (fun w1 r O_18 => ?_)
      obtain ⟨rfl, rfl⟩ := O_18
      refine jj_apd rfl ?_
      refine jj_if_neT (tgt := 40) C dX11_subscribe_25 (by decide) (by decide) ?_
      refine jj_iconst (v := 0) C dX11_subscribe_40 (by decide) ?_
      exact jj_iret C (Or.inr (Or.inr (Or.inr (Or.inl ⟨c_6, c_7, c_11, c_12, rfl, rfl⟩)))) dX11_subscribe_41 (jj_le rfl) (jj_le rfl)
    · refine jj_apd rfl ?_
      refine jj_if_neT (tgt := 20) C dX11_subscribe_13 (by decide) (by decide) ?_
      refine jj_iconst (v := 0) C dX11_subscribe_20 (by decide) ?_
      refine jj_iconst (v := 2) C dX11_subscribe_21 (by decide) ?_
      refine jq_callV (rest := []) C (ct_X11_fails_4 hl D cA ak h0 h1 h2 h4 h5 h6 h3 h7 h8 h9 h10 h11 h12) [3] [0, 1, 2] rfl rfl (by decide) (by decide) (by decide) 0 rfl rfl rfl jw_306 jw_307 jw_308 jw_224 jw_305 jn_X11_fails rfl (jj_le rfl) (jj_le rfl) (jj_le rfl) (jj_le rfl) (jj_le rfl) dX11_subscribe_22 rfl (fun _ _ hX => hX.elim) (fun w1 r O_20 => ?_)
      obtain ⟨rfl, rfl⟩ := O_20
      refine jj_apd rfl ?_
      refine jj_if_neF (tgt := 40) C dX11_subscribe_25 (by decide) (by decide) ?_
      refine jj_aload_n C dX11_subscribe_28 rfl ?_
      refine jj_aload_n C dX11_subscribe_29 rfl ?_
      refine jq_callV (rest := [.ref h0]) C (ct_X11_isFull_1 hl D cA ak h0 h1 h2 h4 h5 h6 h3 h7 h8 h9 h10 h11 h12) [3, 2] [0, 1] rfl rfl (by decide) (by decide) (by decide) 0 rfl rfl rfl jw_322 jw_323 jw_324 jw_224 jw_321 jn_X11_isFull rfl (jj_le rfl) (jj_le rfl) (jj_le rfl) (jj_le rfl) (jj_le rfl) dX11_subscribe_30 rfl (fun _ _ hX => hX.elim) (fun w1 r O_22 => ?_)
      obtain ⟨rfl, rfl⟩ := O_22
      refine jj_apd rfl ?_
      refine jj_iconst (v := 3) C dX11_subscribe_33 (by decide) ?_
      refine jq_callV (rest := []) C (ct_X11_fails_5 hl D cA ak h0 h1 h2 h4 h5 h6 h3 h7 h8 h9 h10 h11 h12) [2] [0, 1, 3] rfl rfl (by decide) (by decide) (by decide) 0 rfl rfl rfl jw_306 jw_307 jw_308 jw_224 jw_305 jn_X11_fails rfl (jj_le rfl) (jj_le rfl) (jj_le rfl) (jj_le rfl) (jj_le rfl) dX11_subscribe_34 rfl (fun _ _ hX => hX.elim) (fun w1 r O_24 => ?_)
      obtain ⟨rfl, rfl⟩ := O_24
      refine jj_apd rfl ?_
      refine jj_if_eqT (tgt := 42) C dX11_subscribe_37 (by decide) (by decide) ?_
      refine jj_aload_n C dX11_subscribe_42 rfl ?_
      refine jq_callV (rest := []) C (ct_X11_remember_1 hl D cA ak h0 h1 h2 h3 h4 h5 h6 h7 h8 h9 h10 h11 h12) [3, 2, 0, 1] [] rfl rfl (by decide) (by decide) (by decide) 0 rfl rfl rfl jw_337 jw_338 jw_339 jw_224 jw_336 jn_X11_remember rfl (jj_le rfl) (jj_le rfl) (jj_le rfl) (jj_le rfl) (jj_le rfl) dX11_subscribe_43 rfl (fun _ _ hX => hX.elim) (fun w1 r O_26 => ?_)
      obtain ⟨f_27, rfl, rfl⟩ := O_26
      refine jj_apd rfl ?_
      refine jj_aload_n C dX11_subscribe_46 rfl ?_
      refine jj_aload_n C dX11_subscribe_47 rfl ?_
      refine jj_get C jk_12 0 (by decide) jw_181 1 rfl rfl dX11_subscribe_48 ?_
      refine jj_iload_n C dX11_subscribe_51 rfl ?_
      refine jj_lconst (v := 0) C dX11_subscribe_52 (by decide) ?_
      refine jj_iload_n C dX11_subscribe_53 rfl ?_
      refine jj_i2l C dX11_subscribe_54 rfl ?_
      refine jq_callV (rest := []) C (ct_X11_ask_1 hl D cA ak h0 h1 h2 h4 h5 h6 h3 h7 h8 h9 h10 h11 h12 a0 a1.toInt64) [1, 0] [2, 3] rfl rfl (by decide) (by decide) (by decide) 0 rfl rfl rfl jw_346 jw_347 jw_348 jw_224 jw_345 jn_X11_ask rfl (jj_le rfl) (jj_le rfl) (jj_le rfl) (jj_le rfl) (jj_le rfl) dX11_subscribe_55 rfl (fun _ _ hX => hX.elim) (fun w1 r O_29 => ?_)
      obtain ⟨rfl, rfl⟩ := O_29
      refine jj_apd rfl ?_
      refine jj_aload_n C dX11_subscribe_58 rfl ?_
      refine jj_get C jk_12 0 (by decide) jw_181 2 rfl rfl dX11_subscribe_59 ?_
      refine jj_bipush (v := 8) C dX11_subscribe_62 (by decide) ?_
      refine jj_lald (v := 1) C 3 rfl (vp_in_iff.mpr (by decide)) rfl dX11_subscribe_64 ?_
      refine jj_l2i (v := 1) C dX11_subscribe_65 (by decide) ?_
      refine jj_iconst (v := 1) C dX11_subscribe_66 (by decide) ?_
      refine jj_isub (v := 0) C dX11_subscribe_67 (by decide) ?_
      exact jj_iret C (Or.inr (Or.inr (Or.inr (Or.inr ⟨f_27, c_6, c_7, c_13, c_14, rfl, rfl⟩)))) dX11_subscribe_68 (jj_le rfl) (jj_le rfl)


set_option maxHeartbeats 4000000 in
set_option maxRecDepth 100000 in
theorem ct_X0_unitsWaitingOf_1 {l : Launch} (hl : l.stackTraces = false) (D : va_G) (cA : Nat → ClassId) (ak : (Nat → Nat) × (Nat → Nat)) (h0 h1 h2 h3 h4 : Nat) (a0 : Int32) : jj_M l D cA ak yX0_unitsWaitingOf (.code yX0_unitsWaitingOf cX0_unitsWaitingOf 5 (some .long)) 0 0 0 0 [(h0, .inr (2, [.int 1, .int 0, .int 0, .int 0, .int 100, .int 0, .int 0, .int 0, .int 0, .int 0, .ref h1, .ref h2, .ref h3, .ref h4]))] [.ref h0, .int a0] (fun (w : va_W) (r : Option Value) => (w = [(h0, .inr (2, [.int 1, .int 0, .int 0, .int 0, .int 100, .int 0, .int 0, .int 0, .int 0, .int 0, .ref h1, .ref h2, .ref h3, .ref h4]))] ∧ r = some (.long 0))) jj_noX := by
  refine jj_start hl (by decide) jw_352 (jj_le rfl) ?_
  intro p e s m args below meth c A hargs hA C hex hmn
  refine jj_lconst (v := 0) C dX0_unitsWaitingOf_0 (by decide) ?_
  refine jj_lstore_n C dX0_unitsWaitingOf_1 (by decide) rfl ?_
  refine jj_iconst (v := 0) C dX0_unitsWaitingOf_2 (by decide) ?_
  refine jj_istore C dX0_unitsWaitingOf_3 (by decide) rfl ?_
  refine jj_iload C dX0_unitsWaitingOf_5 rfl ?_
  refine jj_aload_n C dX0_unitsWaitingOf_7 rfl ?_
  refine jj_get C jk_2 9 (by decide) jw_68 0 rfl rfl dX0_unitsWaitingOf_8 ?_
  refine jj_icmp_geT (tgt := 60) C dX0_unitsWaitingOf_11 (by decide) (by decide) ?_
  refine jj_lload_n C dX0_unitsWaitingOf_60 rfl ?_
  exact jj_lret C ⟨rfl, rfl⟩ dX0_unitsWaitingOf_61 (jj_le rfl) (jj_le rfl)


set_option maxHeartbeats 4000000 in
set_option maxRecDepth 100000 in
theorem ct_X0_unitsHeldBy_1 {l : Launch} (hl : l.stackTraces = false) (D : va_G) (cA : Nat → ClassId) (ak : (Nat → Nat) × (Nat → Nat)) (h0 h1 h2 h3 h4 : Nat) (a0 : Int32) : jj_M l D cA ak yX0_unitsHeldBy (.code yX0_unitsHeldBy cX0_unitsHeldBy 5 (some .long)) 0 0 0 0 [(h0, .inr (2, [.int 1, .int 0, .int 0, .int 0, .int 100, .int 0, .int 0, .int 0, .int 0, .int 0, .ref h1, .ref h2, .ref h3, .ref h4]))] [.ref h0, .int a0] (fun (w : va_W) (r : Option Value) => (w = [(h0, .inr (2, [.int 1, .int 0, .int 0, .int 0, .int 100, .int 0, .int 0, .int 0, .int 0, .int 0, .ref h1, .ref h2, .ref h3, .ref h4]))] ∧ r = some (.long 0))) jj_noX := by
  refine jj_start hl (by decide) jw_357 (jj_le rfl) ?_
  intro p e s m args below meth c A hargs hA C hex hmn
  refine jj_lconst (v := 0) C dX0_unitsHeldBy_0 (by decide) ?_
  refine jj_lstore_n C dX0_unitsHeldBy_1 (by decide) rfl ?_
  refine jj_iconst (v := 0) C dX0_unitsHeldBy_2 (by decide) ?_
  refine jj_istore C dX0_unitsHeldBy_3 (by decide) rfl ?_
  refine jj_iload C dX0_unitsHeldBy_5 rfl ?_
  refine jj_aload_n C dX0_unitsHeldBy_7 rfl ?_
  refine jj_get C jk_2 8 (by decide) jw_67 0 rfl rfl dX0_unitsHeldBy_8 ?_
  refine jj_icmp_geT (tgt := 47) C dX0_unitsHeldBy_11 (by decide) (by decide) ?_
  refine jj_lload_n C dX0_unitsHeldBy_47 rfl ?_
  exact jj_lret C ⟨rfl, rfl⟩ dX0_unitsHeldBy_48 (jj_le rfl) (jj_le rfl)


set_option maxHeartbeats 4000000 in
set_option maxRecDepth 100000 in
theorem ct_X0_redemptionFault_1 {l : Launch} (hl : l.stackTraces = false) (D : va_G) (cA : Nat → ClassId) (ak : (Nat → Nat) × (Nat → Nat)) (h0 h1 h2 h3 h4 : Nat) (a0 : Int32) (a1 : Int32) : jj_M l D cA ak yX0_redemptionFault (.code yX0_redemptionFault cX0_redemptionFault 3 (some .int)) 1 24 0 0 [(h0, .inr (2, [.int 1, .int 0, .int 0, .int 0, .int 100, .int 0, .int 0, .int 0, .int 0, .int 0, .ref h1, .ref h2, .ref h3, .ref h4]))] [.ref h0, .int a0, .int a1] (fun (w : va_W) (r : Option Value) => (a0 < 0 ∧ w = [(h0, .inr (2, [.int 1, .int 0, .int 0, .int 0, .int 100, .int 0, .int 0, .int 0, .int 0, .int 0, .ref h1, .ref h2, .ref h3, .ref h4]))] ∧ r = some (.int 1)) ∨ (¬ a0 < 0 ∧ 1 ≤ a0 ∧ w = [(h0, .inr (2, [.int 1, .int 0, .int 0, .int 0, .int 100, .int 0, .int 0, .int 0, .int 0, .int 0, .ref h1, .ref h2, .ref h3, .ref h4]))] ∧ r = some (.int 1)) ∨ (¬ a0 < 0 ∧ ¬ 1 ≤ a0 ∧ a1 < 1 ∧ w = [(h0, .inr (2, [.int 1, .int 0, .int 0, .int 0, .int 100, .int 0, .int 0, .int 0, .int 0, .int 0, .ref h1, .ref h2, .ref h3, .ref h4]))] ∧ r = some (.int 2)) ∨ (¬ a0 < 0 ∧ ¬ 1 ≤ a0 ∧ ¬ a1 < 1 ∧ a1 ≤ 99999999 ∧ (0 + a1.toInt64) ≤ 0 ∧ w = [(h0, .inr (2, [.int 1, .int 0, .int 0, .int 0, .int 100, .int 0, .int 0, .int 0, .int 0, .int 0, .ref h1, .ref h2, .ref h3, .ref h4]))] ∧ r = some (.int 0)) ∨ (¬ a0 < 0 ∧ ¬ 1 ≤ a0 ∧ ¬ a1 < 1 ∧ a1 ≤ 99999999 ∧ ¬ (0 + a1.toInt64) ≤ 0 ∧ w = [(h0, .inr (2, [.int 1, .int 0, .int 0, .int 0, .int 100, .int 0, .int 0, .int 0, .int 0, .int 0, .ref h1, .ref h2, .ref h3, .ref h4]))] ∧ r = some (.int 3)) ∨ (¬ a0 < 0 ∧ ¬ 1 ≤ a0 ∧ ¬ a1 < 1 ∧ ¬ a1 ≤ 99999999 ∧ w = [(h0, .inr (2, [.int 1, .int 0, .int 0, .int 0, .int 100, .int 0, .int 0, .int 0, .int 0, .int 0, .ref h1, .ref h2, .ref h3, .ref h4]))] ∧ r = some (.int 2))) jj_noX := by
  refine jj_start hl (by decide) jw_362 (jj_le rfl) ?_
  intro p e s m args below meth c A hargs hA C hex hmn
  refine jj_aload_n C dX0_redemptionFault_0 rfl ?_
  refine jj_iload_n C dX0_redemptionFault_1 rfl ?_
  refine jq_callV (rest := []) C (ct_X0_hasInvestor_1 hl D cA ak h0 h1 h2 h3 h4 a0) [0] [] rfl rfl (by decide) (by decide) (by decide) 0 rfl rfl rfl jw_257 jw_258 jw_259 jw_57 jw_256 jn_X0_hasInvestor rfl (jj_le rfl) (jj_le rfl) (jj_le rfl) (jj_le rfl) (jj_le rfl) dX0_redemptionFault_2 rfl (fun _ _ hX => hX.elim) (fun w1 r O_2 => ?_)
  rcases O_2 with ⟨c_3, rfl, rfl⟩ | ⟨c_4, c_5, rfl, rfl⟩ | ⟨c_6, c_7, rfl, rfl⟩
  · refine jj_apd rfl ?_
    refine jj_if_neF (tgt := 10) C dX0_redemptionFault_5 (by decide) (by decide) ?_
    refine jj_iconst (v := 1) C dX0_redemptionFault_8 (by decide) ?_
    exact jj_iret C (Or.inl ⟨c_3, rfl, rfl⟩) dX0_redemptionFault_9 (jj_le rfl) (jj_le rfl)
  · refine jj_apd rfl ?_
    refine jj_if_neF (tgt := 10) C dX0_redemptionFault_5 (by decide) (by decide) ?_
    refine jj_iconst (v := 1) C dX0_redemptionFault_8 (by decide) ?_
    exact jj_iret C (Or.inr (Or.inl ⟨c_4, c_5, rfl, rfl⟩)) dX0_redemptionFault_9 (jj_le rfl) (jj_le rfl)
  · refine jj_apd rfl ?_
    refine jj_if_neT (tgt := 10) C dX0_redemptionFault_5 (by decide) (by decide) ?_
    refine jj_iload_n C dX0_redemptionFault_10 rfl ?_
    refine jj_iconst (v := 1) C dX0_redemptionFault_11 (by decide) ?_
    refine jj_icmp_lt (tgt := 21) C dX0_redemptionFault_12 (by decide) (fun c_8 => ?_) (fun c_8 => ?_)
    · refine jj_iconst (v := 2) C dX0_redemptionFault_21 (by decide) ?_
      exact jj_iret C (Or.inr (Or.inr (Or.inl ⟨c_6, c_7, c_8, rfl, rfl⟩))) dX0_redemptionFault_22 (jj_le rfl) (jj_le rfl)
    · refine jj_iload_n C dX0_redemptionFault_15 rfl ?_
      refine jj_ldc (v := 99999999) C dX0_redemptionFault_16 jw_351 ?_
      refine jj_icmp_le (tgt := 23) C dX0_redemptionFault_18 (by decide) (fun c_9 => ?_) (fun c_9 => ?_)
      · refine jj_aload_n C dX0_redemptionFault_23 rfl ?_
        refine jj_get C jk_2 9 (by decide) jw_68 0 rfl rfl dX0_redemptionFault_24 ?_
        refine jj_bipush (v := 12) C dX0_redemptionFault_27 (by decide) ?_
        refine jj_icmp_ltT (tgt := 34) C dX0_redemptionFault_29 (by decide) (by decide) ?_
        refine jj_aload_n C dX0_redemptionFault_34 rfl ?_
        refine jj_iload_n C dX0_redemptionFault_35 rfl ?_
        refine jq_callV (rest := []) C (ct_X0_unitsWaitingOf_1 hl D cA ak h0 h1 h2 h3 h4 a0) [0] [] rfl rfl (by decide) (by decide) (by decide) 0 rfl rfl rfl jw_353 jw_354 jw_355 jw_57 jw_352 jn_X0_unitsWaitingOf rfl (jj_le rfl) (jj_le rfl) (jj_le rfl) (jj_le rfl) (jj_le rfl) dX0_redemptionFault_36 rfl (fun _ _ hX => hX.elim) (fun w1 r O_11 => ?_)
        obtain ⟨rfl, rfl⟩ := O_11
        refine jj_apd rfl ?_
        refine jj_iload_n C dX0_redemptionFault_39 rfl ?_
        refine jj_i2l C dX0_redemptionFault_40 rfl ?_
        refine jj_ladd C dX0_redemptionFault_41 rfl ?_
        refine jj_aload_n C dX0_redemptionFault_42 rfl ?_
        refine jj_iload_n C dX0_redemptionFault_43 rfl ?_
        refine jq_callV (rest := [.long (0 + a1.toInt64)]) C (ct_X0_unitsHeldBy_1 hl D cA ak h0 h1 h2 h3 h4 a0) [0] [] rfl rfl (by decide) (by decide) (by decide) 0 rfl rfl rfl jw_358 jw_359 jw_360 jw_57 jw_357 jn_X0_unitsHeldBy rfl (jj_le rfl) (jj_le rfl) (jj_le rfl) (jj_le rfl) (jj_le rfl) dX0_redemptionFault_44 rfl (fun _ _ hX => hX.elim) (fun w1 r O_13 => ?_)
        obtain ⟨rfl, rfl⟩ := O_13
        refine jj_apd rfl ?_
        refine jj_lcmp_le (tgt := 55) C dX0_redemptionFault_47 dX0_redemptionFault_48 (by decide) (fun c_14 => ?_) (fun c_14 => ?_)
        · refine jj_iconst (v := 0) C dX0_redemptionFault_55 (by decide) ?_
          exact jj_iret C (Or.inr (Or.inr (Or.inr (Or.inl ⟨c_6, c_7, c_8, c_9, c_14, rfl, rfl⟩)))) dX0_redemptionFault_56 (jj_le rfl) (jj_le rfl)
        · refine jj_iconst (v := 3) C dX0_redemptionFault_51 (by decide) ?_
          refine jj_goto (tgt := 56) C dX0_redemptionFault_52 (by decide) ?_
          exact jj_iret C (Or.inr (Or.inr (Or.inr (Or.inr (Or.inl ⟨c_6, c_7, c_8, c_9, c_14, rfl, rfl⟩))))) dX0_redemptionFault_56 (jj_le rfl) (jj_le rfl)
      · refine jj_iconst (v := 2) C dX0_redemptionFault_21 (by decide) ?_
        exact jj_iret C (Or.inr (Or.inr (Or.inr (Or.inr (Or.inr ⟨c_6, c_7, c_8, c_9, rfl, rfl⟩))))) dX0_redemptionFault_22 (jj_le rfl) (jj_le rfl)


set_option maxHeartbeats 4000000 in
set_option maxRecDepth 100000 in
theorem ct_X0_addRequest_2 {l : Launch} (hl : l.stackTraces = false) (D : va_G) (cA : Nat → ClassId) (ak : (Nat → Nat) × (Nat → Nat)) (h0 h1 h2 h3 h4 h5 : Nat) (a0 : Int32) (b1 : Int64) (f2 : Nat → Option Nat) (k_f2_0 : f2 0 = some h2) : jj_M l D cA ak yX0_addRequest (.code yX0_addRequest cX0_addRequest 7 (some .int)) 1 21 0 0 [(h0, .inr (2, [.int 1, .int 0, .int 0, .int 0, .int 100, .int 0, .int 0, .int 0, .int 0, .int 0, .ref h3, .ref h4, .ref h5, .ref h1])), (h1, .inl (cA 7, 12, .inr (.inr (.inr (.inr f2))))), (h2, .inr (7, [.int 0, .int 0, .int 0, .long 0, .long 0]))] [.ref h0, .int a0, .int 1, .long b1] (fun (w : va_W) (r : Option Value) => (w = [(h0, .inr (2, [.int 1, .int 0, .int 0, .int 0, .int 100, .int 0, .int 0, .int 0, .int 0, .int 1, .ref h3, .ref h4, .ref h5, .ref h1])), (h1, .inl (cA 7, 12, .inr (.inr (.inr (.inr f2))))), (h2, .inr (7, [.int a0, .int 0, .int 1, .long b1, .long 0]))] ∧ r = some (.int 0))) jj_noX := by
  refine jj_start hl (by decide) jw_294 (jj_le rfl) ?_
  intro p e s m args below meth c A hargs hA C hex hmn
  refine jj_aload_n C dX0_addRequest_0 rfl ?_
  refine jj_get C jk_2 9 (by decide) jw_68 0 rfl rfl dX0_addRequest_1 ?_
  refine jj_bipush (v := 11) C dX0_addRequest_4 (by decide) ?_
  refine jq_callS (rest := []) C (ct_J9_min_7cf53_1 hl D cA ak) [] [0, 1, 2] rfl rfl (by decide) (by decide) (by decide) jw_285 jw_287 jw_286 jw_284 jn_J9_min_7cf53 rfl (jj_le rfl) (jj_le rfl) (jj_le rfl) (jj_le rfl) (jj_le rfl) dX0_addRequest_6 rfl (fun _ _ hX => hX.elim) (fun w1 r O_2 => ?_)
  obtain ⟨rfl, rfl⟩ := O_2
  refine jj_apd rfl ?_
  refine jj_istore C dX0_addRequest_9 (by decide) rfl ?_
  refine jj_aload_n C dX0_addRequest_11 rfl ?_
  refine jj_get C jk_2 13 (by decide) jw_76 0 rfl rfl dX0_addRequest_12 ?_
  refine jj_iload C dX0_addRequest_15 rfl ?_
  refine jj_aald (v := (some h2)) C 1 7 rfl rfl (vp_in_iff.mpr (by decide)) k_f2_0 dX0_addRequest_17 ?_
  refine jj_astore C dX0_addRequest_18 (by decide) rfl ?_
  refine jj_aload C dX0_addRequest_20 rfl ?_
  refine jj_iload_n C dX0_addRequest_22 rfl ?_
  refine jj_put C jk_7 0 (by decide) jw_289 rfl 2 rfl rfl rfl rfl rfl dX0_addRequest_23 ?_
  refine jj_aload C dX0_addRequest_26 rfl ?_
  refine jj_iload_n C dX0_addRequest_28 rfl ?_
  refine jj_put C jk_7 2 (by decide) jw_290 rfl 2 rfl rfl rfl rfl rfl dX0_addRequest_29 ?_
  refine jj_aload C dX0_addRequest_32 rfl ?_
  refine jj_lload_n C dX0_addRequest_34 rfl ?_
  refine jj_put C jk_7 3 (by decide) jw_291 rfl 2 rfl rfl rfl rfl rfl dX0_addRequest_35 ?_
  refine jj_aload C dX0_addRequest_38 rfl ?_
  refine jj_lconst (v := 0) C dX0_addRequest_40 (by decide) ?_
  refine jj_put C jk_7 4 (by decide) jw_292 rfl 2 rfl rfl rfl rfl rfl dX0_addRequest_41 ?_
  refine jj_aload C dX0_addRequest_44 rfl ?_
  refine jj_aload_n C dX0_addRequest_46 rfl ?_
  refine jj_get C jk_2 5 (by decide) jw_64 0 rfl rfl dX0_addRequest_47 ?_
  refine jj_put C jk_7 1 (by decide) jw_293 rfl 2 rfl rfl rfl rfl rfl dX0_addRequest_50 ?_
  refine jj_aload_n C dX0_addRequest_53 rfl ?_
  refine jj_iload C dX0_addRequest_54 rfl ?_
  refine jj_iconst (v := 1) C dX0_addRequest_56 (by decide) ?_
  refine jj_iadd (v := 1) C dX0_addRequest_57 (by decide) ?_
  refine jj_put C jk_2 9 (by decide) jw_68 rfl 0 rfl rfl rfl rfl rfl dX0_addRequest_58 ?_
  refine jj_iload C dX0_addRequest_61 rfl ?_
  exact jj_iret C ⟨rfl, rfl⟩ dX0_addRequest_63 (jj_le rfl) (jj_le rfl)


set_option maxHeartbeats 4000000 in
set_option maxRecDepth 100000 in
theorem ct_X10_refuse_4 {l : Launch} (hl : l.stackTraces = false) (D : va_G) (cA : Nat → ClassId) (ak : (Nat → Nat) × (Nat → Nat)) : jj_M l D cA ak yX10_refuse (.code yX10_refuse cX10_refuse 1 none) 6 82 1 6 [] [.int 3] (fun (w : va_W) (r : Option Value) => False) (fun (E : String) (w : va_W) => (E = "java/lang/IllegalStateException")) := by
  refine jj_start hl (by decide) jw_269 (jj_le rfl) ?_
  intro p e s m args below meth c A hargs hA C hex hmn
  refine jj_iload_n C dX10_refuse_0 rfl ?_
  refine jj_iconst (v := 1) C dX10_refuse_1 (by decide) ?_
  refine jj_icmp_neT (tgt := 15) C dX10_refuse_2 (by decide) (by decide) ?_
  refine jj_iload_n C dX10_refuse_15 rfl ?_
  refine jj_iconst (v := 2) C dX10_refuse_16 (by decide) ?_
  refine jj_icmp_neT (tgt := 30) C dX10_refuse_17 (by decide) (by decide) ?_
  refine jj_iload_n C dX10_refuse_30 rfl ?_
  refine jj_iconst (v := 3) C dX10_refuse_31 (by decide) ?_
  refine jj_icmp_neF (tgt := 45) C dX10_refuse_32 (by decide) (by decide) ?_
  exact jj_throw (k := 40) (text := "this cannot be done now") C jt_RX10_64 jw_368 (by decide +kernel) dX10_refuse_35 dX10_refuse_38 dX10_refuse_39 dX10_refuse_41 dX10_refuse_44 hex (jj_le rfl) (jj_le rfl) (jj_le rfl) (jj_le rfl) rfl (jj_le rfl) (jj_le rfl)


set_option maxHeartbeats 4000000 in
set_option maxRecDepth 100000 in
theorem ct_X10_redeem_1 {l : Launch} (hl : l.stackTraces = false) (D : va_G) (cA : Nat → ClassId) (ak : (Nat → Nat) × (Nat → Nat)) (h0 h1 h2 h3 h4 h5 h6 h7 h8 h9 h10 h11 : Nat) (a0 : Int32) (a1 : Int32) (f2 : Nat → Option Nat) (k_f2_0 : f2 0 = some h5) : jj_M l D cA ak yX10_redeem (.code yX10_redeem cX10_redeem 3 (some .int)) 7 102 63 408 [(h0, .inr (11, [.ref h6, .int 0, .int (-1), .ref h1, .ref h7, .ref h8, .ref h2, .int 0, .int 0, .ref h9])), (h1, .inr (2, [.int 1, .int 0, .int 0, .int 0, .int 100, .int 0, .int 0, .int 0, .int 0, .int 0, .ref h3, .ref h10, .ref h11, .ref h4])), (h2, .inl (cA 5, 10, .inr (.inr (.inr (.inr (fun _ => none)))))), (h3, .inl (cA 2, 6, .inr (.inl (fun _ => 0)))), (h4, .inl (cA 7, 12, .inr (.inr (.inr (.inr f2))))), (h5, .inr (7, [.int 0, .int 0, .int 0, .long 0, .long 0]))] [.ref h0, .int a0, .int a1] (fun (w : va_W) (r : Option Value) => (¬ a0 < 0 ∧ ¬ 1 ≤ a0 ∧ ¬ a1 < 1 ∧ a1 ≤ 99999999 ∧ (0 + a1.toInt64) ≤ 0 ∧ r = some (.int 0))) (fun (E : String) (w : va_W) => (E = "java/lang/IndexOutOfBoundsException" ∧ a0 < 0) ∨ (E = "java/lang/IndexOutOfBoundsException" ∧ ¬ a0 < 0 ∧ 1 ≤ a0) ∨ (E = "java/lang/IllegalArgumentException" ∧ ¬ a0 < 0 ∧ ¬ 1 ≤ a0 ∧ a1 < 1) ∨ (E = "java/lang/IllegalStateException" ∧ ¬ a0 < 0 ∧ ¬ 1 ≤ a0 ∧ ¬ a1 < 1 ∧ a1 ≤ 99999999 ∧ ¬ (0 + a1.toInt64) ≤ 0) ∨ (E = "java/lang/IllegalArgumentException" ∧ ¬ a0 < 0 ∧ ¬ 1 ≤ a0 ∧ ¬ a1 < 1 ∧ ¬ a1 ≤ 99999999)) := by
  refine jj_start hl (by decide) jw_369 (jj_le rfl) ?_
  intro p e s m args below meth c A hargs hA C hex hmn
  refine jj_aload_n C dX10_redeem_0 rfl ?_
  refine jj_get C jk_11 3 (by decide) jw_135 0 rfl rfl dX10_redeem_1 ?_
  refine jj_iload_n C dX10_redeem_4 rfl ?_
  refine jj_iload_n C dX10_redeem_5 rfl ?_
  refine jq_callV (rest := []) C (ct_X0_redemptionFault_1 hl D cA ak h1 h3 h10 h11 h4 a0 a1) [1] [0, 2, 3, 4, 5] rfl rfl (by decide) (by decide) (by decide) 0 rfl rfl rfl jw_363 jw_364 jw_365 jw_57 jw_362 jn_X0_redemptionFault rfl (jj_le rfl) (jj_le rfl) (jj_le rfl) (jj_le rfl) (jj_le rfl) dX10_redeem_6 rfl (fun _ _ hX => hX.elim) (fun w1 r O_2 => ?_)
  rcases O_2 with ⟨c_3, rfl, rfl⟩ | ⟨c_4, c_5, rfl, rfl⟩ | ⟨c_6, c_7, c_8, rfl, rfl⟩ | ⟨c_9, c_10, c_11, c_12, c_13, rfl, rfl⟩ | ⟨c_14, c_15, c_16, c_17, c_18, rfl, rfl⟩ | ⟨c_19, c_20, c_21, c_22, rfl, rfl⟩
  · refine jj_apd rfl ?_
    refine jq_callS (rest := []) C (ct_X10_refuse_1 hl D cA ak) [] [0, 1, 2, 3, 4, 5] rfl rfl (by decide) (by decide) (by decide) jw_270 jw_272 jw_271 jw_269 jn_X10_refuse rfl (jj_le rfl) (jj_le rfl) (jj_le rfl) (jj_le rfl) (jj_le rfl) dX10_redeem_9 rfl (fun E w1 X_23 => ?_) (fun w1 r O_24 => ?_)
    · obtain rfl := X_23
      refine jj_leftY ?_
      exact jj_out C hex (Or.inl ⟨rfl, c_3⟩) (jj_le rfl) (jj_le rfl)
    · exact O_24.elim
  · refine jj_apd rfl ?_
    refine jq_callS (rest := []) C (ct_X10_refuse_1 hl D cA ak) [] [0, 1, 2, 3, 4, 5] rfl rfl (by decide) (by decide) (by decide) jw_270 jw_272 jw_271 jw_269 jn_X10_refuse rfl (jj_le rfl) (jj_le rfl) (jj_le rfl) (jj_le rfl) (jj_le rfl) dX10_redeem_9 rfl (fun E w1 X_25 => ?_) (fun w1 r O_26 => ?_)
    · obtain rfl := X_25
      refine jj_leftY ?_
      exact jj_out C hex (Or.inr (Or.inl ⟨rfl, c_4, c_5⟩)) (jj_le rfl) (jj_le rfl)
    · exact O_26.elim
  · refine jj_apd rfl ?_
    refine jq_callS (rest := []) C (ct_X10_refuse_2 hl D cA ak) [] [0, 1, 2, 3, 4, 5] rfl rfl (by decide) (by decide) (by decide) jw_270 jw_272 jw_271 jw_269 jn_X10_refuse rfl (jj_le rfl) (jj_le rfl) (jj_le rfl) (jj_le rfl) (jj_le rfl) dX10_redeem_9 rfl (fun E w1 X_27 => ?_) (fun w1 r O_28 => ?_)
    · obtain rfl := X_27
      refine jj_leftY ?_
      exact jj_out C hex (Or.inr (Or.inr (Or.inl ⟨rfl, c_6, c_7, c_8⟩))) (jj_le rfl) (jj_le rfl)
    · exact O_28.elim
  · refine jj_apd rfl ?_
    refine jq_callS (rest := []) C (ct_X10_refuse_3 hl D cA ak) [] [0, 1, 2, 3, 4, 5] rfl rfl (by decide) (by decide) (by decide) jw_270 jw_272 jw_271 jw_269 jn_X10_refuse rfl (jj_le rfl) (jj_le rfl) (jj_le rfl) (jj_le rfl) (jj_le rfl) dX10_redeem_9 rfl (fun _ _ hX => hX.elim) (fun w1 r O_30 => ?_)
    obtain ⟨rfl, rfl⟩ := O_30
    refine jj_apd rfl ?_
    refine jj_aload_n C dX10_redeem_12 rfl ?_
    refine jq_callV (rest := []) C (ct_X10_remember_1 hl D cA ak h0 h1 h2 h3 h6 h7 h8 h9 h10 h11 h4) [0, 5, 1, 2] [3, 4] rfl rfl (by decide) (by decide) (by decide) 0 rfl rfl rfl jw_280 jw_281 jw_282 jw_271 jw_279 jn_X10_remember rfl (jj_le rfl) (jj_le rfl) (jj_le rfl) (jj_le rfl) (jj_le rfl) dX10_redeem_13 rfl (fun _ _ hX => hX.elim) (fun w1 r O_32 => ?_)
    obtain ⟨q_33, q_34, q_35, q_36, q_37, q_38, f_39, c_40, rfl, rfl⟩ := O_32
    refine jj_apd rfl ?_
    refine jj_aload_n C dX10_redeem_16 rfl ?_
    refine jj_get C jk_11 3 (by decide) jw_135 2 rfl rfl dX10_redeem_17 ?_
    refine jj_iload_n C dX10_redeem_20 rfl ?_
    refine jj_iconst (v := 1) C dX10_redeem_21 (by decide) ?_
    refine jj_iload_n C dX10_redeem_22 rfl ?_
    refine jj_i2l C dX10_redeem_23 rfl ?_
    refine jq_callV (rest := []) C (ct_X0_addRequest_2 hl D cA ak h1 h4 h5 h3 h10 h11 a0 a1.toInt64 f2 k_f2_0) [7, 0, 1] [2, 3, 4, 5, 6, 8, 9] rfl rfl (by decide) (by decide) (by decide) 0 rfl rfl rfl jw_295 jw_296 jw_297 jw_57 jw_294 jn_X0_addRequest rfl (jj_le rfl) (jj_le rfl) (jj_le rfl) (jj_le rfl) (jj_le rfl) dX10_redeem_24 rfl (fun _ _ hX => hX.elim) (fun w1 r O_42 => ?_)
    obtain ⟨rfl, rfl⟩ := O_42
    refine jj_apd rfl ?_
    exact jj_iret C ⟨c_9, c_10, c_11, c_12, c_13, rfl⟩ dX10_redeem_27 (jj_le rfl) (jj_le rfl)
  · refine jj_apd rfl ?_
    refine jq_callS (rest := []) C (ct_X10_refuse_4 hl D cA ak) [] [0, 1, 2, 3, 4, 5] rfl rfl (by decide) (by decide) (by decide) jw_270 jw_272 jw_271 jw_269 jn_X10_refuse rfl (jj_le rfl) (jj_le rfl) (jj_le rfl) (jj_le rfl) (jj_le rfl) dX10_redeem_9 rfl (fun E w1 X_43 => ?_) (fun w1 r O_44 => ?_)
    · obtain rfl := X_43
      refine jj_leftY ?_
      exact jj_out C hex (Or.inr (Or.inr (Or.inr (Or.inl ⟨rfl, c_14, c_15, c_16, c_17, c_18⟩)))) (jj_le rfl) (jj_le rfl)
    · exact O_44.elim
  · refine jj_apd rfl ?_
    refine jq_callS (rest := []) C (ct_X10_refuse_2 hl D cA ak) [] [0, 1, 2, 3, 4, 5] rfl rfl (by decide) (by decide) (by decide) jw_270 jw_272 jw_271 jw_269 jn_X10_refuse rfl (jj_le rfl) (jj_le rfl) (jj_le rfl) (jj_le rfl) (jj_le rfl) dX10_redeem_9 rfl (fun E w1 X_45 => ?_) (fun w1 r O_46 => ?_)
    · obtain rfl := X_45
      refine jj_leftY ?_
      exact jj_out C hex (Or.inr (Or.inr (Or.inr (Or.inr ⟨rfl, c_19, c_20, c_21, c_22⟩)))) (jj_le rfl) (jj_le rfl)
    · exact O_46.elim


set_option maxHeartbeats 4000000 in
set_option maxRecDepth 100000 in
theorem ct_X11_in_3 {l : Launch} (hl : l.stackTraces = false) (D : va_G) (cA : Nat → ClassId) (ak : (Nat → Nat) × (Nat → Nat)) (b0 : Int64) : jj_M l D cA ak yX11_in (.code yX11_in cX11_in 6 (some .boolean)) 0 0 0 0 [] [.long b0, .long 1, .long 99999999] (fun (w : va_W) (r : Option Value) => (b0 < 1 ∧ w = [] ∧ r = some (.int 0)) ∨ (¬ b0 < 1 ∧ 99999999 < b0 ∧ w = [] ∧ r = some (.int 0)) ∨ (¬ b0 < 1 ∧ ¬ 99999999 < b0 ∧ w = [] ∧ r = some (.int 1))) jj_noX := by
  refine jj_start hl (by decide) jw_246 (jj_le rfl) ?_
  intro p e s m args below meth c A hargs hA C hex hmn
  refine jj_lload_n C dX11_in_0 rfl ?_
  refine jj_lload_n C dX11_in_1 rfl ?_
  refine jj_lcmp_lt (tgt := 17) C dX11_in_2 dX11_in_3 (by decide) (fun c_1 => ?_) (fun c_1 => ?_)
  · refine jj_iconst (v := 0) C dX11_in_17 (by decide) ?_
    exact jj_zret C rfl (Or.inl ⟨c_1, rfl, rfl⟩) dX11_in_18 (jj_le rfl) (jj_le rfl)
  · refine jj_lload_n C dX11_in_6 rfl ?_
    refine jj_lload C dX11_in_7 rfl ?_
    refine jj_lcmp_gt (tgt := 17) C dX11_in_9 dX11_in_10 (by decide) (fun c_2 => ?_) (fun c_2 => ?_)
    · refine jj_iconst (v := 0) C dX11_in_17 (by decide) ?_
      exact jj_zret C rfl (Or.inr (Or.inl ⟨c_1, c_2, rfl, rfl⟩)) dX11_in_18 (jj_le rfl) (jj_le rfl)
    · refine jj_iconst (v := 1) C dX11_in_13 (by decide) ?_
      refine jj_goto (tgt := 18) C dX11_in_14 (by decide) ?_
      exact jj_zret C rfl (Or.inr (Or.inr ⟨c_1, c_2, rfl, rfl⟩)) dX11_in_18 (jj_le rfl) (jj_le rfl)


set_option maxHeartbeats 4000000 in
set_option maxRecDepth 100000 in
theorem ct_X11_isUnits_1 {l : Launch} (hl : l.stackTraces = false) (D : va_G) (cA : Nat → ClassId) (ak : (Nat → Nat) × (Nat → Nat)) (a0 : Int32) : jj_M l D cA ak yX11_isUnits (.code yX11_isUnits cX11_isUnits 1 (some .boolean)) 1 25 0 0 [] [.int a0] (fun (w : va_W) (r : Option Value) => (a0.toInt64 < 1 ∧ w = [] ∧ r = some (.int 0)) ∨ (¬ a0.toInt64 < 1 ∧ 99999999 < a0.toInt64 ∧ w = [] ∧ r = some (.int 0)) ∨ (¬ a0.toInt64 < 1 ∧ ¬ 99999999 < a0.toInt64 ∧ w = [] ∧ r = some (.int 1))) jj_noX := by
  refine jj_start hl (by decide) jw_371 (jj_le rfl) ?_
  intro p e s m args below meth c A hargs hA C hex hmn
  refine jj_iload_n C dX11_isUnits_0 rfl ?_
  refine jj_i2l C dX11_isUnits_1 rfl ?_
  refine jj_lconst (v := 1) C dX11_isUnits_2 (by decide) ?_
  refine jj_ldc2 (v := 99999999) C dX11_isUnits_3 jw_370 ?_
  refine jq_callS (rest := []) C (ct_X11_in_3 hl D cA ak a0.toInt64) [] [] rfl rfl (by decide) (by decide) (by decide) jw_247 jw_248 jw_224 jw_246 jn_X11_in rfl (jj_le rfl) (jj_le rfl) (jj_le rfl) (jj_le rfl) (jj_le rfl) dX11_isUnits_6 rfl (fun _ _ hX => hX.elim) (fun w1 r O_2 => ?_)
  rcases O_2 with ⟨c_3, rfl, rfl⟩ | ⟨c_4, c_5, rfl, rfl⟩ | ⟨c_6, c_7, rfl, rfl⟩
  · refine jj_apd rfl ?_
    exact jj_zret C rfl (Or.inl ⟨c_3, rfl, rfl⟩) dX11_isUnits_9 (jj_le rfl) (jj_le rfl)
  · refine jj_apd rfl ?_
    exact jj_zret C rfl (Or.inr (Or.inl ⟨c_4, c_5, rfl, rfl⟩)) dX11_isUnits_9 (jj_le rfl) (jj_le rfl)
  · refine jj_apd rfl ?_
    exact jj_zret C rfl (Or.inr (Or.inr ⟨c_6, c_7, rfl, rfl⟩)) dX11_isUnits_9 (jj_le rfl) (jj_le rfl)


set_option maxHeartbeats 4000000 in
set_option maxRecDepth 100000 in
theorem ct_X11_waitingOf_1 {l : Launch} (hl : l.stackTraces = false) (D : va_G) (cA : Nat → ClassId) (ak : (Nat → Nat) × (Nat → Nat)) (h0 h1 h2 h3 h4 h5 h6 h7 h8 h9 h10 h11 h12 : Nat) (a0 : Int32) : jj_M l D cA ak yX11_waitingOf (.code yX11_waitingOf cX11_waitingOf 5 (some .long)) 0 0 0 0 [(h0, .inr (12, [.ref h1, .ref h2, .ref h3, .ref h4, .ref h5, .ref h6, .int 0, .int 0, .long 0, .long 0, .ref h7, .ref h8, .ref h9, .int 0, .int 0, .int 0, .int 0, .int 0, .int (-1), .int 0, .int 0, .ref h10, .ref h11, .ref h12, .int 0])), (h1, .inl (cA 2, 334, .inr (.inl (vp_updL (vp_updL (fun _ => 0) 0 1) 4 100))))] [.ref h0, .int a0] (fun (w : va_W) (r : Option Value) => (w = [(h0, .inr (12, [.ref h1, .ref h2, .ref h3, .ref h4, .ref h5, .ref h6, .int 0, .int 0, .long 0, .long 0, .ref h7, .ref h8, .ref h9, .int 0, .int 0, .int 0, .int 0, .int 0, .int (-1), .int 0, .int 0, .ref h10, .ref h11, .ref h12, .int 0])), (h1, .inl (cA 2, 334, .inr (.inl (vp_updL (vp_updL (fun _ => 0) 0 1) 4 100))))] ∧ r = some (.long 0))) jj_noX := by
  refine jj_start hl (by decide) jw_375 (jj_le rfl) ?_
  intro p e s m args below meth c A hargs hA C hex hmn
  refine jj_lconst (v := 0) C dX11_waitingOf_0 (by decide) ?_
  refine jj_lstore_n C dX11_waitingOf_1 (by decide) rfl ?_
  refine jj_iconst (v := 0) C dX11_waitingOf_2 (by decide) ?_
  refine jj_istore C dX11_waitingOf_3 (by decide) rfl ?_
  refine jj_iload C dX11_waitingOf_5 rfl ?_
  refine jj_i2l (v := 0) C dX11_waitingOf_7 (by decide) ?_
  refine jj_aload_n C dX11_waitingOf_8 rfl ?_
  refine jj_get C jk_12 0 (by decide) jw_181 0 rfl rfl dX11_waitingOf_9 ?_
  refine jj_bipush (v := 8) C dX11_waitingOf_12 (by decide) ?_
  refine jj_lald (v := 0) C 1 rfl (vp_in_iff.mpr (by decide)) rfl dX11_waitingOf_14 ?_
  refine jj_lcmp_geT (tgt := 67) C dX11_waitingOf_15 dX11_waitingOf_16 (by decide) (by decide) ?_
  refine jj_lload_n C dX11_waitingOf_67 rfl ?_
  exact jj_lret C ⟨rfl, rfl⟩ dX11_waitingOf_68 (jj_le rfl) (jj_le rfl)


set_option maxHeartbeats 4000000 in
set_option maxRecDepth 100000 in
theorem ct_X11_unitsBy_1 {l : Launch} (hl : l.stackTraces = false) (D : va_G) (cA : Nat → ClassId) (ak : (Nat → Nat) × (Nat → Nat)) (h0 h1 h2 h3 h4 h5 h6 h7 h8 h9 h10 h11 h12 : Nat) (a0 : Int32) : jj_M l D cA ak yX11_unitsBy (.code yX11_unitsBy cX11_unitsBy 5 (some .long)) 0 0 0 0 [(h0, .inr (12, [.ref h1, .ref h2, .ref h3, .ref h4, .ref h5, .ref h6, .int 0, .int 0, .long 0, .long 0, .ref h7, .ref h8, .ref h9, .int 0, .int 0, .int 0, .int 0, .int 0, .int (-1), .int 0, .int 0, .ref h10, .ref h11, .ref h12, .int 0])), (h1, .inl (cA 2, 334, .inr (.inl (vp_updL (vp_updL (fun _ => 0) 0 1) 4 100))))] [.ref h0, .int a0] (fun (w : va_W) (r : Option Value) => (w = [(h0, .inr (12, [.ref h1, .ref h2, .ref h3, .ref h4, .ref h5, .ref h6, .int 0, .int 0, .long 0, .long 0, .ref h7, .ref h8, .ref h9, .int 0, .int 0, .int 0, .int 0, .int 0, .int (-1), .int 0, .int 0, .ref h10, .ref h11, .ref h12, .int 0])), (h1, .inl (cA 2, 334, .inr (.inl (vp_updL (vp_updL (fun _ => 0) 0 1) 4 100))))] ∧ r = some (.long 0))) jj_noX := by
  refine jj_start hl (by decide) jw_380 (jj_le rfl) ?_
  intro p e s m args below meth c A hargs hA C hex hmn
  refine jj_lconst (v := 0) C dX11_unitsBy_0 (by decide) ?_
  refine jj_lstore_n C dX11_unitsBy_1 (by decide) rfl ?_
  refine jj_iconst (v := 0) C dX11_unitsBy_2 (by decide) ?_
  refine jj_istore C dX11_unitsBy_3 (by decide) rfl ?_
  refine jj_iload C dX11_unitsBy_5 rfl ?_
  refine jj_i2l (v := 0) C dX11_unitsBy_7 (by decide) ?_
  refine jj_aload_n C dX11_unitsBy_8 rfl ?_
  refine jj_get C jk_12 0 (by decide) jw_181 0 rfl rfl dX11_unitsBy_9 ?_
  refine jj_bipush (v := 7) C dX11_unitsBy_12 (by decide) ?_
  refine jj_lald (v := 0) C 1 rfl (vp_in_iff.mpr (by decide)) rfl dX11_unitsBy_14 ?_
  refine jj_lcmp_geT (tgt := 58) C dX11_unitsBy_15 dX11_unitsBy_16 (by decide) (by decide) ?_
  refine jj_lload_n C dX11_unitsBy_58 rfl ?_
  exact jj_lret C ⟨rfl, rfl⟩ dX11_unitsBy_59 (jj_le rfl) (jj_le rfl)


set_option maxHeartbeats 4000000 in
set_option maxRecDepth 100000 in
theorem ct_X11_canRedeem_1 {l : Launch} (hl : l.stackTraces = false) (D : va_G) (cA : Nat → ClassId) (ak : (Nat → Nat) × (Nat → Nat)) (h0 h1 h2 h3 h4 h5 h6 h7 h8 h9 h10 h11 h12 : Nat) (a0 : Int32) (a1 : Int32) : jj_M l D cA ak yX11_canRedeem (.code yX11_canRedeem cX11_canRedeem 3 (some .boolean)) 1 24 0 0 [(h0, .inr (12, [.ref h1, .ref h2, .ref h3, .ref h4, .ref h5, .ref h6, .int 0, .int 0, .long 0, .long 0, .ref h7, .ref h8, .ref h9, .int 0, .int 0, .int 0, .int 0, .int 0, .int (-1), .int 0, .int 0, .ref h10, .ref h11, .ref h12, .int 0])), (h1, .inl (cA 2, 334, .inr (.inl (vp_updL (vp_updL (fun _ => 0) 0 1) 4 100))))] [.ref h0, .int a0, .int a1] (fun (w : va_W) (r : Option Value) => (0 < (0 + a1.toInt64) ∧ w = [(h0, .inr (12, [.ref h1, .ref h2, .ref h3, .ref h4, .ref h5, .ref h6, .int 0, .int 0, .long 0, .long 0, .ref h7, .ref h8, .ref h9, .int 0, .int 0, .int 0, .int 0, .int 0, .int (-1), .int 0, .int 0, .ref h10, .ref h11, .ref h12, .int 0])), (h1, .inl (cA 2, 334, .inr (.inl (vp_updL (vp_updL (fun _ => 0) 0 1) 4 100))))] ∧ r = some (.int 0)) ∨ (¬ 0 < (0 + a1.toInt64) ∧ w = [(h0, .inr (12, [.ref h1, .ref h2, .ref h3, .ref h4, .ref h5, .ref h6, .int 0, .int 0, .long 0, .long 0, .ref h7, .ref h8, .ref h9, .int 0, .int 0, .int 0, .int 0, .int 0, .int (-1), .int 0, .int 0, .ref h10, .ref h11, .ref h12, .int 0])), (h1, .inl (cA 2, 334, .inr (.inl (vp_updL (vp_updL (fun _ => 0) 0 1) 4 100))))] ∧ r = some (.int 1))) jj_noX := by
  refine jj_start hl (by decide) jw_385 (jj_le rfl) ?_
  intro p e s m args below meth c A hargs hA C hex hmn
  refine jj_aload_n C dX11_canRedeem_0 rfl ?_
  refine jq_callV (rest := []) C (ct_X11_isFull_1 hl D cA ak h0 h1 h2 h3 h4 h5 h6 h7 h8 h9 h10 h11 h12) [0, 1] [] rfl rfl (by decide) (by decide) (by decide) 0 rfl rfl rfl jw_322 jw_323 jw_324 jw_224 jw_321 jn_X11_isFull rfl (jj_le rfl) (jj_le rfl) (jj_le rfl) (jj_le rfl) (jj_le rfl) dX11_canRedeem_1 rfl (fun _ _ hX => hX.elim) (fun w1 r O_2 => ?_)
  obtain ⟨rfl, rfl⟩ := O_2
  refine jj_apd rfl ?_
  refine jj_if_neF (tgt := 28) C dX11_canRedeem_4 (by decide) (by decide) ?_
  refine jj_aload_n C dX11_canRedeem_7 rfl ?_
  refine jj_iload_n C dX11_canRedeem_8 rfl ?_
  refine jq_callV (rest := []) C (ct_X11_waitingOf_1 hl D cA ak h0 h1 h2 h3 h4 h5 h6 h7 h8 h9 h10 h11 h12 a0) [0, 1] [] rfl rfl (by decide) (by decide) (by decide) 0 rfl rfl rfl jw_376 jw_377 jw_378 jw_224 jw_375 jn_X11_waitingOf rfl (jj_le rfl) (jj_le rfl) (jj_le rfl) (jj_le rfl) (jj_le rfl) dX11_canRedeem_9 rfl (fun _ _ hX => hX.elim) (fun w1 r O_4 => ?_)
  obtain ⟨rfl, rfl⟩ := O_4
  refine jj_apd rfl ?_
  refine jj_iload_n C dX11_canRedeem_12 rfl ?_
  refine jj_i2l C dX11_canRedeem_13 rfl ?_
  refine jj_ladd C dX11_canRedeem_14 rfl ?_
  refine jj_aload_n C dX11_canRedeem_15 rfl ?_
  refine jj_iload_n C dX11_canRedeem_16 rfl ?_
  refine jq_callV (rest := [.long (0 + a1.toInt64)]) C (ct_X11_unitsBy_1 hl D cA ak h0 h1 h2 h3 h4 h5 h6 h7 h8 h9 h10 h11 h12 a0) [0, 1] [] rfl rfl (by decide) (by decide) (by decide) 0 rfl rfl rfl jw_381 jw_382 jw_383 jw_224 jw_380 jn_X11_unitsBy rfl (jj_le rfl) (jj_le rfl) (jj_le rfl) (jj_le rfl) (jj_le rfl) dX11_canRedeem_17 rfl (fun _ _ hX => hX.elim) (fun w1 r O_6 => ?_)
  obtain ⟨rfl, rfl⟩ := O_6
  refine jj_apd rfl ?_
  refine jj_lcmp_gt (tgt := 28) C dX11_canRedeem_20 dX11_canRedeem_21 (by decide) (fun c_7 => ?_) (fun c_7 => ?_)
  · refine jj_iconst (v := 0) C dX11_canRedeem_28 (by decide) ?_
    exact jj_zret C rfl (Or.inl ⟨c_7, rfl, rfl⟩) dX11_canRedeem_29 (jj_le rfl) (jj_le rfl)
  · refine jj_iconst (v := 1) C dX11_canRedeem_24 (by decide) ?_
    refine jj_goto (tgt := 29) C dX11_canRedeem_25 (by decide) ?_
    exact jj_zret C rfl (Or.inr ⟨c_7, rfl, rfl⟩) dX11_canRedeem_29 (jj_le rfl) (jj_le rfl)


set_option maxHeartbeats 4000000 in
set_option maxRecDepth 100000 in
theorem ct_X11_fails_6 {l : Launch} (hl : l.stackTraces = false) (D : va_G) (cA : Nat → ClassId) (ak : (Nat → Nat) × (Nat → Nat)) (h0 h1 h2 h3 h4 h5 h6 h7 h8 h9 h10 h11 h12 : Nat) : jj_M l D cA ak yX11_fails (.code yX11_fails cX11_fails 3 (some .boolean)) 0 0 0 0 [(h0, .inr (12, [.ref h1, .ref h2, .ref h3, .ref h4, .ref h5, .ref h6, .int 0, .int 0, .long 0, .long 0, .ref h7, .ref h8, .ref h9, .int 0, .int 0, .int 0, .int 0, .int 0, .int (-1), .int 0, .int 0, .ref h10, .ref h11, .ref h12, .int 0]))] [.ref h0, .int 1, .int 3] (fun (w : va_W) (r : Option Value) => (w = [(h0, .inr (12, [.ref h1, .ref h2, .ref h3, .ref h4, .ref h5, .ref h6, .int 0, .int 3, .long 0, .long 0, .ref h7, .ref h8, .ref h9, .int 0, .int 0, .int 0, .int 0, .int 0, .int (-1), .int 0, .int 0, .ref h10, .ref h11, .ref h12, .int 0]))] ∧ r = some (.int 1))) jj_noX := by
  refine jj_start hl (by decide) jw_305 (jj_le rfl) ?_
  intro p e s m args below meth c A hargs hA C hex hmn
  refine jj_aload_n C dX11_fails_0 rfl ?_
  refine jj_iload_n C dX11_fails_1 rfl ?_
  refine jj_if_eqF (tgt := 9) C dX11_fails_2 (by decide) (by decide) ?_
  refine jj_iload_n C dX11_fails_5 rfl ?_
  refine jj_goto (tgt := 10) C dX11_fails_6 (by decide) ?_
  refine jj_put C jk_12 7 (by decide) jw_236 rfl 0 rfl rfl rfl rfl rfl dX11_fails_10 ?_
  refine jj_iload_n C dX11_fails_13 rfl ?_
  exact jj_zret C rfl ⟨rfl, rfl⟩ dX11_fails_14 (jj_le rfl) (jj_le rfl)


set_option maxHeartbeats 4000000 in
set_option maxRecDepth 100000 in
theorem ct_X11_ask_2 {l : Launch} (hl : l.stackTraces = false) (D : va_G) (cA : Nat → ClassId) (ak : (Nat → Nat) × (Nat → Nat)) (h0 h1 h2 h3 h4 h5 h6 h7 h8 h9 h10 h11 h12 : Nat) (a0 : Int32) (b1 : Int64) : jj_M l D cA ak yX11_ask (.code yX11_ask cX11_ask 8 none) 1 20 0 0 [(h0, .inr (12, [.ref h1, .ref h2, .ref h3, .ref h4, .ref h5, .ref h6, .int 1, .int 0, .long 0, .long 0, .ref h7, .ref h8, .ref h9, .int 0, .int 0, .int 0, .int 0, .int 0, .int (-1), .int 0, .int 0, .ref h10, .ref h11, .ref h12, .int 0])), (h1, .inl (cA 2, 334, .inr (.inl (vp_updL (vp_updL (fun _ => 0) 0 1) 4 100))))] [.ref h0, .ref h1, .int a0, .long 1, .long b1] (fun (w : va_W) (r : Option Value) => (w = [(h0, .inr (12, [.ref h1, .ref h2, .ref h3, .ref h4, .ref h5, .ref h6, .int 1, .int 0, .long 0, .long 0, .ref h7, .ref h8, .ref h9, .int 0, .int 0, .int 0, .int 0, .int 0, .int (-1), .int 0, .int 0, .ref h10, .ref h11, .ref h12, .int 0])), (h1, .inl (cA 2, 334, .inr (.inl (vp_updL (vp_updL (vp_updL (vp_updL (vp_updL (vp_updL (vp_updL (fun _ => 0) 0 1) 4 100) 286 a0.toInt64) 287 1) 288 b1) 289 0) 8 1))))] ∧ r = none)) jj_noX := by
  refine jj_start hl (by decide) jw_345 (jj_le rfl) ?_
  intro p e s m args below meth c A hargs hA C hex hmn
  refine jj_aload_n C dX11_ask_0 rfl ?_
  refine jj_bipush (v := 8) C dX11_ask_1 (by decide) ?_
  refine jj_lald (v := 0) C 1 rfl (vp_in_iff.mpr (by decide)) rfl dX11_ask_3 ?_
  refine jj_l2i (v := 0) C dX11_ask_4 (by decide) ?_
  refine jq_callS (rest := []) C (ct_X11_requestAt_1 hl D cA ak) [] [0, 1] rfl rfl (by decide) (by decide) (by decide) jw_342 jw_343 jw_224 jw_341 jn_X11_requestAt rfl (jj_le rfl) (jj_le rfl) (jj_le rfl) (jj_le rfl) (jj_le rfl) dX11_ask_5 rfl (fun _ _ hX => hX.elim) (fun w1 r O_2 => ?_)
  obtain ⟨rfl, rfl⟩ := O_2
  refine jj_apd rfl ?_
  refine jj_istore C dX11_ask_8 (by decide) rfl ?_
  refine jj_aload_n C dX11_ask_10 rfl ?_
  refine jj_iload C dX11_ask_11 rfl ?_
  refine jj_iconst (v := 0) C dX11_ask_13 (by decide) ?_
  refine jj_iadd (v := 286) C dX11_ask_14 (by decide) ?_
  refine jj_iload_n C dX11_ask_15 rfl ?_
  refine jj_i2l C dX11_ask_16 rfl ?_
  refine jj_last C 1 rfl (vp_in_iff.mpr (by decide)) (g := (vp_updL (vp_updL (vp_updL (fun _ => 0) 0 1) 4 100) 286 a0.toInt64)) rfl rfl dX11_ask_17 ?_
  refine jj_aload_n C dX11_ask_18 rfl ?_
  refine jj_iload C dX11_ask_19 rfl ?_
  refine jj_iconst (v := 1) C dX11_ask_21 (by decide) ?_
  refine jj_iadd (v := 287) C dX11_ask_22 (by decide) ?_
  refine jj_lload_n C dX11_ask_23 rfl ?_
  refine jj_last C 1 rfl (vp_in_iff.mpr (by decide)) (g := (vp_updL (vp_updL (vp_updL (vp_updL (fun _ => 0) 0 1) 4 100) 286 a0.toInt64) 287 1)) rfl rfl dX11_ask_24 ?_
  refine jj_aload_n C dX11_ask_25 rfl ?_
  refine jj_iload C dX11_ask_26 rfl ?_
  refine jj_iconst (v := 2) C dX11_ask_28 (by decide) ?_
  refine jj_iadd (v := 288) C dX11_ask_29 (by decide) ?_
  refine jj_lload C dX11_ask_30 rfl ?_
  refine jj_last C 1 rfl (vp_in_iff.mpr (by decide)) (g := (vp_updL (vp_updL (vp_updL (vp_updL (vp_updL (fun _ => 0) 0 1) 4 100) 286 a0.toInt64) 287 1) 288 b1)) rfl rfl dX11_ask_32 ?_
  refine jj_aload_n C dX11_ask_33 rfl ?_
  refine jj_iload C dX11_ask_34 rfl ?_
  refine jj_iconst (v := 3) C dX11_ask_36 (by decide) ?_
  refine jj_iadd (v := 289) C dX11_ask_37 (by decide) ?_
  refine jj_aload_n C dX11_ask_38 rfl ?_
  refine jj_iconst (v := 5) C dX11_ask_39 (by decide) ?_
  refine jj_lald (v := 0) C 1 rfl (vp_in_iff.mpr (by decide)) rfl dX11_ask_40 ?_
  refine jj_last C 1 rfl (vp_in_iff.mpr (by decide)) (g := (vp_updL (vp_updL (vp_updL (vp_updL (vp_updL (vp_updL (fun _ => 0) 0 1) 4 100) 286 a0.toInt64) 287 1) 288 b1) 289 0)) rfl rfl dX11_ask_41 ?_
  refine jj_aload_n C dX11_ask_42 rfl ?_
  refine jj_bipush (v := 8) C dX11_ask_43 (by decide) ?_
  refine jj_dup2 C dX11_ask_45 rfl rfl ?_
  refine jj_lald (v := 0) C 1 rfl (vp_in_iff.mpr (by decide)) rfl dX11_ask_46 ?_
  refine jj_lconst (v := 1) C dX11_ask_47 (by decide) ?_
  refine jj_ladd (v := 1) C dX11_ask_48 (by decide) ?_
  refine jj_last C 1 rfl (vp_in_iff.mpr (by decide)) (g := (vp_updL (vp_updL (vp_updL (vp_updL (vp_updL (vp_updL (vp_updL (fun _ => 0) 0 1) 4 100) 286 a0.toInt64) 287 1) 288 b1) 289 0) 8 1)) rfl rfl dX11_ask_49 ?_
  exact jj_vret C ⟨rfl, rfl⟩ dX11_ask_50 (jj_le rfl) (jj_le rfl)


set_option maxHeartbeats 4000000 in
set_option maxRecDepth 100000 in
theorem ct_X11_redeem_1 {l : Launch} (hl : l.stackTraces = false) (D : va_G) (cA : Nat → ClassId) (ak : (Nat → Nat) × (Nat → Nat)) (h0 h1 h2 h3 h4 h5 h6 h7 h8 h9 h10 h11 h12 : Nat) (a0 : Int32) (a1 : Int32) : jj_M l D cA ak yX11_redeem (.code yX11_redeem cX11_redeem 3 (some .int)) 3 67 0 0 [(h0, .inr (12, [.ref h1, .ref h2, .ref h4, .ref h5, .ref h6, .ref h3, .int 0, .int 0, .long 0, .long 0, .ref h7, .ref h8, .ref h9, .int 0, .int 0, .int 0, .int 0, .int 0, .int (-1), .int 0, .int 0, .ref h10, .ref h11, .ref h12, .int 0])), (h1, .inl (cA 2, 334, .inr (.inl (vp_updL (vp_updL (fun _ => 0) 0 1) 4 100)))), (h2, .inl (cA 2, 334, .inr (.inl (fun _ => 0)))), (h3, .inl (cA 2, 3340, .inr (.inl (fun _ => 0))))] [.ref h0, .int a0, .int a1] (fun (w : va_W) (r : Option Value) => (a0.toInt64 < 0 ∧ w = [(h2, .inl (cA 2, 334, .inr (.inl (fun _ => 0)))), (h3, .inl (cA 2, 3340, .inr (.inl (fun _ => 0)))), (h1, .inl (cA 2, 334, .inr (.inl (vp_updL (vp_updL (fun _ => 0) 0 1) 4 100)))), (h0, .inr (12, [.ref h1, .ref h2, .ref h4, .ref h5, .ref h6, .ref h3, .int 0, .int 1, .long 0, .long 0, .ref h7, .ref h8, .ref h9, .int 0, .int 0, .int 0, .int 0, .int 0, .int (-1), .int 0, .int 0, .ref h10, .ref h11, .ref h12, .int 0]))] ∧ r = some (.int 0)) ∨ (¬ a0.toInt64 < 0 ∧ 0 < a0.toInt64 ∧ w = [(h2, .inl (cA 2, 334, .inr (.inl (fun _ => 0)))), (h3, .inl (cA 2, 3340, .inr (.inl (fun _ => 0)))), (h1, .inl (cA 2, 334, .inr (.inl (vp_updL (vp_updL (fun _ => 0) 0 1) 4 100)))), (h0, .inr (12, [.ref h1, .ref h2, .ref h4, .ref h5, .ref h6, .ref h3, .int 0, .int 1, .long 0, .long 0, .ref h7, .ref h8, .ref h9, .int 0, .int 0, .int 0, .int 0, .int 0, .int (-1), .int 0, .int 0, .ref h10, .ref h11, .ref h12, .int 0]))] ∧ r = some (.int 0)) ∨ (¬ a0.toInt64 < 0 ∧ ¬ 0 < a0.toInt64 ∧ a1.toInt64 < 1 ∧ w = [(h2, .inl (cA 2, 334, .inr (.inl (fun _ => 0)))), (h3, .inl (cA 2, 3340, .inr (.inl (fun _ => 0)))), (h1, .inl (cA 2, 334, .inr (.inl (vp_updL (vp_updL (fun _ => 0) 0 1) 4 100)))), (h0, .inr (12, [.ref h1, .ref h2, .ref h4, .ref h5, .ref h6, .ref h3, .int 0, .int 2, .long 0, .long 0, .ref h7, .ref h8, .ref h9, .int 0, .int 0, .int 0, .int 0, .int 0, .int (-1), .int 0, .int 0, .ref h10, .ref h11, .ref h12, .int 0]))] ∧ r = some (.int 0)) ∨ (¬ a0.toInt64 < 0 ∧ ¬ 0 < a0.toInt64 ∧ ¬ a1.toInt64 < 1 ∧ 99999999 < a1.toInt64 ∧ w = [(h2, .inl (cA 2, 334, .inr (.inl (fun _ => 0)))), (h3, .inl (cA 2, 3340, .inr (.inl (fun _ => 0)))), (h1, .inl (cA 2, 334, .inr (.inl (vp_updL (vp_updL (fun _ => 0) 0 1) 4 100)))), (h0, .inr (12, [.ref h1, .ref h2, .ref h4, .ref h5, .ref h6, .ref h3, .int 0, .int 2, .long 0, .long 0, .ref h7, .ref h8, .ref h9, .int 0, .int 0, .int 0, .int 0, .int 0, .int (-1), .int 0, .int 0, .ref h10, .ref h11, .ref h12, .int 0]))] ∧ r = some (.int 0)) ∨ (¬ a0.toInt64 < 0 ∧ ¬ 0 < a0.toInt64 ∧ ¬ a1.toInt64 < 1 ∧ ¬ 99999999 < a1.toInt64 ∧ 0 < (0 + a1.toInt64) ∧ w = [(h2, .inl (cA 2, 334, .inr (.inl (fun _ => 0)))), (h3, .inl (cA 2, 3340, .inr (.inl (fun _ => 0)))), (h1, .inl (cA 2, 334, .inr (.inl (vp_updL (vp_updL (fun _ => 0) 0 1) 4 100)))), (h0, .inr (12, [.ref h1, .ref h2, .ref h4, .ref h5, .ref h6, .ref h3, .int 0, .int 3, .long 0, .long 0, .ref h7, .ref h8, .ref h9, .int 0, .int 0, .int 0, .int 0, .int 0, .int (-1), .int 0, .int 0, .ref h10, .ref h11, .ref h12, .int 0]))] ∧ r = some (.int 0)) ∨ (∃ (f_31 : Nat → Int64), ¬ a0.toInt64 < 0 ∧ ¬ 0 < a0.toInt64 ∧ ¬ a1.toInt64 < 1 ∧ ¬ 99999999 < a1.toInt64 ∧ ¬ 0 < (0 + a1.toInt64) ∧ w = [(h2, .inl (cA 2, 334, .inr (.inl (jj_cpy (vp_updL (vp_updL (fun _ => 0) 0 1) 4 100) (fun _ => 0) 334)))), (h3, .inl (cA 2, 3340, .inr (.inl f_31))), (h0, .inr (12, [.ref h1, .ref h2, .ref h4, .ref h5, .ref h6, .ref h3, .int 1, .int 0, .long 0, .long 0, .ref h7, .ref h8, .ref h9, .int 0, .int 0, .int 0, .int 0, .int 0, .int (-1), .int 0, .int 0, .ref h10, .ref h11, .ref h12, .int 0])), (h1, .inl (cA 2, 334, .inr (.inl (vp_updL (vp_updL (vp_updL (vp_updL (vp_updL (vp_updL (vp_updL (fun _ => 0) 0 1) 4 100) 286 a0.toInt64) 287 1) 288 a1.toInt64) 289 0) 8 1))))] ∧ r = some (.int 0))) jj_noX := by
  refine jj_start hl (by decide) jw_390 (jj_le rfl) ?_
  intro p e s m args below meth c A hargs hA C hex hmn
  refine jj_aload_n C dX11_redeem_0 rfl ?_
  refine jj_iload_n C dX11_redeem_1 rfl ?_
  refine jq_callV (rest := []) C (ct_X11_isNoInvestor_1 hl D cA ak h0 h1 h2 h4 h5 h6 h3 h7 h8 h9 h10 h11 h12 a0) [0, 1] [2, 3] rfl rfl (by decide) (by decide) (by decide) 0 rfl rfl rfl jw_311 jw_312 jw_313 jw_224 jw_310 jn_X11_isNoInvestor rfl (jj_le rfl) (jj_le rfl) (jj_le rfl) (jj_le rfl) (jj_le rfl) dX11_redeem_2 rfl (fun _ _ hX => hX.elim) (fun w1 r O_2 => ?_)
  rcases O_2 with ⟨c_3, rfl, rfl⟩ | ⟨c_4, c_5, rfl, rfl⟩ | ⟨c_6, c_7, rfl, rfl⟩
  · refine jj_apd rfl ?_
    refine jj_if_neT (tgt := 50) C dX11_redeem_5 (by decide) (by decide) ?_
    refine jj_iconst (v := 0) C dX11_redeem_50 (by decide) ?_
    exact jj_iret C (Or.inl ⟨c_3, rfl, rfl⟩) dX11_redeem_51 (jj_le rfl) (jj_le rfl)
  · refine jj_apd rfl ?_
    refine jj_if_neT (tgt := 50) C dX11_redeem_5 (by decide) (by decide) ?_
    refine jj_iconst (v := 0) C dX11_redeem_50 (by decide) ?_
    exact jj_iret C (Or.inr (Or.inl ⟨c_4, c_5, rfl, rfl⟩)) dX11_redeem_51 (jj_le rfl) (jj_le rfl)
  · refine jj_apd rfl ?_
    refine jj_if_neF (tgt := 50) C dX11_redeem_5 (by decide) (by decide) ?_
    refine jj_aload_n C dX11_redeem_8 rfl ?_
    refine jj_iload_n C dX11_redeem_9 rfl ?_
    refine jq_callS (rest := [.ref h0]) C (ct_X11_isUnits_1 hl D cA ak a1) [] [0, 1, 2, 3] rfl rfl (by decide) (by decide) (by decide) jw_372 jw_373 jw_224 jw_371 jn_X11_isUnits rfl (jj_le rfl) (jj_le rfl) (jj_le rfl) (jj_le rfl) (jj_le rfl) dX11_redeem_10 rfl (fun _ _ hX => hX.elim) (fun w1 r O_9 => ?_)
    rcases O_9 with ⟨c_10, rfl, rfl⟩ | ⟨c_11, c_12, rfl, rfl⟩ | ⟨c_13, c_14, rfl, rfl⟩
    · refine jj_apd rfl ?_
      refine jj_if_neF (tgt := 20) C dX11_redeem_13 (by decide) (by decide) ?_
      refine jj_iconst (v := 1) C dX11_redeem_16 (by decide) ?_
      refine jj_goto (tgt := 21) C dX11_redeem_17 (by decide) ?_
      refine jj_iconst (v := 2) C dX11_redeem_21 (by decide) ?_
      refine jq_callV (rest := []) C (ct_X11_fails_3 hl D cA ak h0 h1 h2 h4 h5 h6 h3 h7 h8 h9 h10 h11 h12) [3] [0, 1, 2] rfl rfl (by decide) (by decide) (by decide) 0 rfl rfl rfl jw_306 jw_307 jw_308 jw_224 jw_305 jn_X11_fails rfl (jj_le rfl) (jj_le rfl) (jj_le rfl) (jj_le rfl) (jj_le rfl) dX11_redeem_22 rfl (fun _ _ hX => hX.elim) (fun w1 r O_16 => ?_)
      obtain ⟨rfl, rfl⟩ := O_16
      refine jj_apd rfl ?_
      refine jj_if_neT (tgt := 50) C dX11_redeem_25 (by decide) (by decide) ?_
      refine jj_iconst (v := 0) C dX11_redeem_50 (by decide) ?_
      exact jj_iret C (Or.inr (Or.inr (Or.inl ⟨c_6, c_7, c_10, rfl, rfl⟩))) dX11_redeem_51 (jj_le rfl) (jj_le rfl)
    · refine jj_apd rfl ?_
      refine jj_if_neF (tgt := 20) C dX11_redeem_13 (by decide) (by decide) ?_
      refine jj_iconst (v := 1) C dX11_redeem_16 (by decide) ?_
      refine jj_goto (tgt := 21) C dX11_redeem_17 (by decide) ?_
      refine jj_iconst (v := 2) C dX11_redeem_21 (by decide) ?_
      refine jq_callV (rest := []) C (ct_X11_fails_3 hl D cA ak h0 h1 h2 h4 h5 h6 h3 h7 h8 h9 h10 h11 h12) [3] [0, 1, 2] rfl rfl (by decide) (by decide) (by decide) 0 rfl rfl rfl jw_306 jw_307 jw_308 jw_224 jw_305 jn_X11_fails rfl (jj_le rfl) (jj_le rfl) (jj_le rfl) (jj_le rfl) (jj_le rfl) dX11_redeem_22 rfl (fun _ _ hX => hX.elim) (fun w1 r O_18 => ?_)
      obtain ⟨rfl, rfl⟩ := O_18
      refine jj_apd rfl ?_
      refine jj_if_neT (tgt := 50) C dX11_redeem_25 (by decide) (by decide) ?_
      refine jj_iconst (v := 0) C dX11_redeem_50 (by decide) ?_
      exact jj_iret C (Or.inr (Or.inr (Or.inr (Or.inl ⟨c_6, c_7, c_11, c_12, rfl, rfl⟩)))) dX11_redeem_51 (jj_le rfl) (jj_le rfl)
    · refine jj_apd rfl ?_
      refine jj_if_neT (tgt := 20) C dX11_redeem_13 (by decide) (by decide) ?_
      refine jj_iconst (v := 0) C dX11_redeem_20 (by decide) ?_
      refine jj_iconst (v := 2) C dX11_redeem_21 (by decide) ?_
      refine jq_callV (rest := []) C (ct_X11_fails_4 hl D cA ak h0 h1 h2 h4 h5 h6 h3 h7 h8 h9 h10 h11 h12) [3] [0, 1, 2] rfl rfl (by decide) (by decide) (by decide) 0 rfl rfl rfl jw_306 jw_307 jw_308 jw_224 jw_305 jn_X11_fails rfl (jj_le rfl) (jj_le rfl) (jj_le rfl) (jj_le rfl) (jj_le rfl) dX11_redeem_22 rfl (fun _ _ hX => hX.elim) (fun w1 r O_20 => ?_)
      obtain ⟨rfl, rfl⟩ := O_20
      refine jj_apd rfl ?_
      refine jj_if_neF (tgt := 50) C dX11_redeem_25 (by decide) (by decide) ?_
      refine jj_aload_n C dX11_redeem_28 rfl ?_
      refine jj_aload_n C dX11_redeem_29 rfl ?_
      refine jj_iload_n C dX11_redeem_30 rfl ?_
      refine jj_iload_n C dX11_redeem_31 rfl ?_
      refine jq_callV (rest := [.ref h0]) C (ct_X11_canRedeem_1 hl D cA ak h0 h1 h2 h4 h5 h6 h3 h7 h8 h9 h10 h11 h12 a0 a1) [3, 2] [0, 1] rfl rfl (by decide) (by decide) (by decide) 0 rfl rfl rfl jw_386 jw_387 jw_388 jw_224 jw_385 jn_X11_canRedeem rfl (jj_le rfl) (jj_le rfl) (jj_le rfl) (jj_le rfl) (jj_le rfl) dX11_redeem_32 rfl (fun _ _ hX => hX.elim) (fun w1 r O_22 => ?_)
      rcases O_22 with ⟨c_23, rfl, rfl⟩ | ⟨c_24, rfl, rfl⟩
      · refine jj_apd rfl ?_
        refine jj_if_neF (tgt := 42) C dX11_redeem_35 (by decide) (by decide) ?_
        refine jj_iconst (v := 1) C dX11_redeem_38 (by decide) ?_
        refine jj_goto (tgt := 43) C dX11_redeem_39 (by decide) ?_
        refine jj_iconst (v := 3) C dX11_redeem_43 (by decide) ?_
        refine jq_callV (rest := []) C (ct_X11_fails_6 hl D cA ak h0 h1 h2 h4 h5 h6 h3 h7 h8 h9 h10 h11 h12) [2] [0, 1, 3] rfl rfl (by decide) (by decide) (by decide) 0 rfl rfl rfl jw_306 jw_307 jw_308 jw_224 jw_305 jn_X11_fails rfl (jj_le rfl) (jj_le rfl) (jj_le rfl) (jj_le rfl) (jj_le rfl) dX11_redeem_44 rfl (fun _ _ hX => hX.elim) (fun w1 r O_26 => ?_)
        obtain ⟨rfl, rfl⟩ := O_26
        refine jj_apd rfl ?_
        refine jj_if_eqF (tgt := 52) C dX11_redeem_47 (by decide) (by decide) ?_
        refine jj_iconst (v := 0) C dX11_redeem_50 (by decide) ?_
        exact jj_iret C (Or.inr (Or.inr (Or.inr (Or.inr (Or.inl ⟨c_6, c_7, c_13, c_14, c_23, rfl, rfl⟩))))) dX11_redeem_51 (jj_le rfl) (jj_le rfl)
      · refine jj_apd rfl ?_
        refine jj_if_neT (tgt := 42) C dX11_redeem_35 (by decide) (by decide) ?_
        refine jj_iconst (v := 0) C dX11_redeem_42 (by decide) ?_
        refine jj_iconst (v := 3) C dX11_redeem_43 (by decide) ?_
        refine jq_callV (rest := []) C (ct_X11_fails_5 hl D cA ak h0 h1 h2 h4 h5 h6 h3 h7 h8 h9 h10 h11 h12) [2] [0, 1, 3] rfl rfl (by decide) (by decide) (by decide) 0 rfl rfl rfl jw_306 jw_307 jw_308 jw_224 jw_305 jn_X11_fails rfl (jj_le rfl) (jj_le rfl) (jj_le rfl) (jj_le rfl) (jj_le rfl) dX11_redeem_44 rfl (fun _ _ hX => hX.elim) (fun w1 r O_28 => ?_)
        obtain ⟨rfl, rfl⟩ := O_28
        refine jj_apd rfl ?_
        refine jj_if_eqT (tgt := 52) C dX11_redeem_47 (by decide) (by decide) ?_
        refine jj_aload_n C dX11_redeem_52 rfl ?_
        refine jq_callV (rest := []) C (ct_X11_remember_1 hl D cA ak h0 h1 h2 h3 h4 h5 h6 h7 h8 h9 h10 h11 h12) [3, 2, 0, 1] [] rfl rfl (by decide) (by decide) (by decide) 0 rfl rfl rfl jw_337 jw_338 jw_339 jw_224 jw_336 jn_X11_remember rfl (jj_le rfl) (jj_le rfl) (jj_le rfl) (jj_le rfl) (jj_le rfl) dX11_redeem_53 rfl (fun _ _ hX => hX.elim) (fun w1 r O_30 => ?_)
        obtain ⟨f_31, rfl, rfl⟩ := O_30
        refine jj_apd rfl ?_
        refine jj_aload_n C dX11_redeem_56 rfl ?_
        refine jj_aload_n C dX11_redeem_57 rfl ?_
        refine jj_get C jk_12 0 (by decide) jw_181 1 rfl rfl dX11_redeem_58 ?_
        refine jj_iload_n C dX11_redeem_61 rfl ?_
        refine jj_lconst (v := 1) C dX11_redeem_62 (by decide) ?_
        refine jj_iload_n C dX11_redeem_63 rfl ?_
        refine jj_i2l C dX11_redeem_64 rfl ?_
        refine jq_callV (rest := []) C (ct_X11_ask_2 hl D cA ak h0 h1 h2 h4 h5 h6 h3 h7 h8 h9 h10 h11 h12 a0 a1.toInt64) [1, 0] [2, 3] rfl rfl (by decide) (by decide) (by decide) 0 rfl rfl rfl jw_346 jw_347 jw_348 jw_224 jw_345 jn_X11_ask rfl (jj_le rfl) (jj_le rfl) (jj_le rfl) (jj_le rfl) (jj_le rfl) dX11_redeem_65 rfl (fun _ _ hX => hX.elim) (fun w1 r O_33 => ?_)
        obtain ⟨rfl, rfl⟩ := O_33
        refine jj_apd rfl ?_
        refine jj_aload_n C dX11_redeem_68 rfl ?_
        refine jj_get C jk_12 0 (by decide) jw_181 2 rfl rfl dX11_redeem_69 ?_
        refine jj_bipush (v := 8) C dX11_redeem_72 (by decide) ?_
        refine jj_lald (v := 1) C 3 rfl (vp_in_iff.mpr (by decide)) rfl dX11_redeem_74 ?_
        refine jj_l2i (v := 1) C dX11_redeem_75 (by decide) ?_
        refine jj_iconst (v := 1) C dX11_redeem_76 (by decide) ?_
        refine jj_isub (v := 0) C dX11_redeem_77 (by decide) ?_
        exact jj_iret C (Or.inr (Or.inr (Or.inr (Or.inr (Or.inr ⟨f_31, c_6, c_7, c_13, c_14, c_24, rfl, rfl⟩))))) dX11_redeem_78 (jj_le rfl) (jj_le rfl)


set_option maxHeartbeats 4000000 in
set_option maxRecDepth 100000 in
theorem ct_X10_checkRequest_1 {l : Launch} (hl : l.stackTraces = false) (D : va_G) (cA : Nat → ClassId) (ak : (Nat → Nat) × (Nat → Nat)) (h0 h1 h2 h3 h4 h5 h6 h7 h8 h9 h10 : Nat) (a0 : Int32) : jj_M l D cA ak yX10_checkRequest (.code yX10_checkRequest cX10_checkRequest 2 none) 7 102 1 6 [(h0, .inr (11, [.ref h2, .int 0, .int (-1), .ref h1, .ref h3, .ref h4, .ref h5, .int 0, .int 0, .ref h6])), (h1, .inr (2, [.int 1, .int 0, .int 0, .int 0, .int 100, .int 0, .int 0, .int 0, .int 0, .int 0, .ref h7, .ref h8, .ref h9, .ref h10]))] [.ref h0, .int a0] (fun (w : va_W) (r : Option Value) => False) (fun (E : String) (w : va_W) => (E = "java/lang/IndexOutOfBoundsException" ∧ a0 < 0) ∨ (E = "java/lang/IndexOutOfBoundsException" ∧ ¬ a0 < 0)) := by
  refine jj_start hl (by decide) jw_392 (jj_le rfl) ?_
  intro p e s m args below meth c A hargs hA C hex hmn
  refine jj_iload_n C dX10_checkRequest_0 rfl ?_
  refine jj_if_lt (tgt := 19) C dX10_checkRequest_1 (by decide) (fun c_1 => ?_) (fun c_1 => ?_)
  · refine jj_iconst (v := 1) C dX10_checkRequest_19 (by decide) ?_
    refine jq_callS (rest := []) C (ct_X10_refuse_1 hl D cA ak) [] [0, 1] rfl rfl (by decide) (by decide) (by decide) jw_270 jw_272 jw_271 jw_269 jn_X10_refuse rfl (jj_le rfl) (jj_le rfl) (jj_le rfl) (jj_le rfl) (jj_le rfl) dX10_checkRequest_20 rfl (fun E w1 X_2 => ?_) (fun w1 r O_3 => ?_)
    · obtain rfl := X_2
      refine jj_leftY ?_
      exact jj_out C hex (Or.inl ⟨rfl, c_1⟩) (jj_le rfl) (jj_le rfl)
    · exact O_3.elim
  · refine jj_iload_n C dX10_checkRequest_4 rfl ?_
    refine jj_aload_n C dX10_checkRequest_5 rfl ?_
    refine jj_get C jk_11 3 (by decide) jw_135 0 rfl rfl dX10_checkRequest_6 ?_
    refine jj_get C jk_2 9 (by decide) jw_391 1 rfl rfl dX10_checkRequest_9 ?_
    refine jj_icmp_geT (tgt := 19) C dX10_checkRequest_12 (by decide) (by first | exact Int64.not_lt.mp c_1 | exact Int32.not_lt.mp c_1) ?_
    refine jj_iconst (v := 1) C dX10_checkRequest_19 (by decide) ?_
    refine jq_callS (rest := []) C (ct_X10_refuse_1 hl D cA ak) [] [0, 1] rfl rfl (by decide) (by decide) (by decide) jw_270 jw_272 jw_271 jw_269 jn_X10_refuse rfl (jj_le rfl) (jj_le rfl) (jj_le rfl) (jj_le rfl) (jj_le rfl) dX10_checkRequest_20 rfl (fun E w1 X_4 => ?_) (fun w1 r O_5 => ?_)
    · obtain rfl := X_4
      refine jj_leftY ?_
      exact jj_out C hex (Or.inr ⟨rfl, c_1⟩) (jj_le rfl) (jj_le rfl)
    · exact O_5.elim


set_option maxHeartbeats 4000000 in
set_option maxRecDepth 100000 in
theorem ct_X10_withdraw_1 {l : Launch} (hl : l.stackTraces = false) (D : va_G) (cA : Nat → ClassId) (ak : (Nat → Nat) × (Nat → Nat)) (h0 h1 h2 h3 h4 h5 h6 h7 h8 h9 h10 : Nat) (a0 : Int32) : jj_M l D cA ak yX10_withdraw (.code yX10_withdraw cX10_withdraw 4 (some .long)) 8 123 1 6 [(h0, .inr (11, [.ref h2, .int 0, .int (-1), .ref h1, .ref h3, .ref h4, .ref h5, .int 0, .int 0, .ref h6])), (h1, .inr (2, [.int 1, .int 0, .int 0, .int 0, .int 100, .int 0, .int 0, .int 0, .int 0, .int 0, .ref h7, .ref h8, .ref h9, .ref h10]))] [.ref h0, .int a0] (fun (w : va_W) (r : Option Value) => False) (fun (E : String) (w : va_W) => (E = "java/lang/IndexOutOfBoundsException" ∧ a0 < 0) ∨ (E = "java/lang/IndexOutOfBoundsException" ∧ ¬ a0 < 0)) := by
  refine jj_start hl (by decide) jw_397 (jj_le rfl) ?_
  intro p e s m args below meth c A hargs hA C hex hmn
  refine jj_aload_n C dX10_withdraw_0 rfl ?_
  refine jj_iload_n C dX10_withdraw_1 rfl ?_
  refine jq_callV (rest := []) C (ct_X10_checkRequest_1 hl D cA ak h0 h1 h2 h3 h4 h5 h6 h7 h8 h9 h10 a0) [0, 1] [] rfl rfl (by decide) (by decide) (by decide) 0 rfl rfl rfl jw_393 jw_394 jw_395 jw_271 jw_392 jn_X10_checkRequest rfl (jj_le rfl) (jj_le rfl) (jj_le rfl) (jj_le rfl) (jj_le rfl) dX10_withdraw_2 rfl (fun E w1 X_1 => ?_) (fun w1 r O_2 => ?_)
  · rcases X_1 with ⟨rfl, c_3⟩ | ⟨rfl, c_4⟩
    · refine jj_leftY ?_
      exact jj_out C hex (Or.inl ⟨rfl, c_3⟩) (jj_le rfl) (jj_le rfl)
    · refine jj_leftY ?_
      exact jj_out C hex (Or.inr ⟨rfl, c_4⟩) (jj_le rfl) (jj_le rfl)
  · exact O_2.elim


set_option maxHeartbeats 4000000 in
set_option maxRecDepth 100000 in
theorem ct_X11_in_4 {l : Launch} (hl : l.stackTraces = false) (D : va_G) (cA : Nat → ClassId) (ak : (Nat → Nat) × (Nat → Nat)) (b0 : Int64) : jj_M l D cA ak yX11_in (.code yX11_in cX11_in 6 (some .boolean)) 0 0 0 0 [] [.long b0, .long 0, .long (-1)] (fun (w : va_W) (r : Option Value) => (b0 < 0 ∧ w = [] ∧ r = some (.int 0)) ∨ (¬ b0 < 0 ∧ w = [] ∧ r = some (.int 0))) jj_noX := by
  refine jj_start hl (by decide) jw_246 (jj_le rfl) ?_
  intro p e s m args below meth c A hargs hA C hex hmn
  refine jj_lload_n C dX11_in_0 rfl ?_
  refine jj_lload_n C dX11_in_1 rfl ?_
  refine jj_lcmp_lt (tgt := 17) C dX11_in_2 dX11_in_3 (by decide) (fun c_1 => ?_) (fun c_1 => ?_)
  · refine jj_iconst (v := 0) C dX11_in_17 (by decide) ?_
    exact jj_zret C rfl (Or.inl ⟨c_1, rfl, rfl⟩) dX11_in_18 (jj_le rfl) (jj_le rfl)
  · refine jj_lload_n C dX11_in_6 rfl ?_
    refine jj_lload C dX11_in_7 rfl ?_
    refine jj_lcmp_gtT (tgt := 17) C dX11_in_9 dX11_in_10 (by decide) (jj_ltlL (by decide) (jj_fltL c_1)) ?_
    refine jj_iconst (v := 0) C dX11_in_17 (by decide) ?_
    exact jj_zret C rfl (Or.inr ⟨c_1, rfl, rfl⟩) dX11_in_18 (jj_le rfl) (jj_le rfl)


