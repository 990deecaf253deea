set_option maxHeartbeats 4000000 in
set_option maxRecDepth 100000 in
theorem ct_X10_rateFor_1 {l : Launch} (hl : l.stackTraces = false) (D : va_G) (cA : Nat → ClassId) (ak : (Nat → Nat) × (Nat → Nat)) (h0 h1 h2 h3 h4 h5 h6 h7 h8 h9 h10 h11 : Nat) (a0 : Int32) (b1 : Int64) : jj_M l D cA ak yX10_rateFor (.code yX10_rateFor cX10_rateFor 5 (some .int)) 8 123 2 12 [(h0, .inr (11, [.ref h3, .int 0, .int (-1), .ref h1, .ref h4, .ref h2, .ref h5, .int 0, .int 0, .ref h6])), (h1, .inr (2, [.int 1, .int 0, .int 0, .int 0, .int 100, .int 0, .int 0, .int 0, .int 0, .int 0, .ref h7, .ref h8, .ref h9, .ref h10])), (h2, .inr (3, [.ref h11, .long 0, .long 0, .long 0, .long 0, .long 0]))] [.ref h0, .int a0, .long b1] (fun (w : va_W) (r : Option Value) => (¬ a0 < 0 ∧ ¬ 1 ≤ a0 ∧ b1 ≤ 0 ∧ r = some (.int (-9000)))) (fun (E : String) (w : va_W) => (E = "java/lang/IndexOutOfBoundsException" ∧ a0 < 0) ∨ (E = "java/lang/IndexOutOfBoundsException" ∧ ¬ a0 < 0 ∧ 1 ≤ a0) ∨ (E = "java/util/NoSuchElementException" ∧ ¬ a0 < 0 ∧ ¬ 1 ≤ a0 ∧ ¬ b1 ≤ 0)) := by
  refine jj_start hl (by decide) jw_602 (jj_le rfl) ?_
  intro p e s m args below meth c A hargs hA C hex hmn
  refine jj_aload_n C dX10_rateFor_0 rfl ?_
  refine jj_iload_n C dX10_rateFor_1 rfl ?_
  refine jq_callV (rest := []) C (ct_X10_checkInvestor_1 hl D cA ak h0 h1 h3 h4 h2 h5 h6 h7 h8 h9 h10 a0) [0, 1] [2] rfl rfl (by decide) (by decide) (by decide) 0 rfl rfl rfl jw_513 jw_514 jw_515 jw_271 jw_512 jn_X10_checkInvestor rfl (jj_le rfl) (jj_le rfl) (jj_le rfl) (jj_le rfl) (jj_le rfl) dX10_rateFor_2 rfl (fun E w1 X_1 => ?_) (fun w1 r O_2 => ?_)
  · rcases X_1 with ⟨rfl, c_3⟩ | ⟨rfl, c_4, c_5⟩
    · refine jj_leftY ?_
      exact jj_out C hex (Or.inl ⟨rfl, c_3⟩) (jj_le rfl) (jj_le rfl)
    · refine jj_leftY ?_
      exact jj_out C hex (Or.inr (Or.inl ⟨rfl, c_4, c_5⟩)) (jj_le rfl) (jj_le rfl)
  · obtain ⟨c_6, c_7, rfl, rfl⟩ := O_2
    refine jj_apd rfl ?_
    refine jj_aload_n C dX10_rateFor_5 rfl ?_
    refine jj_iload_n C dX10_rateFor_6 rfl ?_
    refine jj_lload_n C dX10_rateFor_7 rfl ?_
    refine jq_callV (rest := []) C (ct_X10_firstRateInReach_1 hl D cA ak h0 h1 h2 h3 h4 h5 h6 h7 h8 h9 h10 h11 a0 b1) [1, 2, 0] [] rfl rfl (by decide) (by decide) (by decide) 0 rfl rfl rfl jw_596 jw_597 jw_598 jw_271 jw_595 jn_X10_firstRateInReach rfl (jj_le rfl) (jj_le rfl) (jj_le rfl) (jj_le rfl) (jj_le rfl) dX10_rateFor_8 rfl (fun _ _ hX => hX.elim) (fun w1 r O_9 => ?_)
    rcases O_9 with ⟨c_10, rfl, rfl⟩ | ⟨c_11, rfl, rfl⟩
    · refine jj_apd rfl ?_
      refine jj_istore C dX10_rateFor_11 (by decide) rfl ?_
      refine jj_iload C dX10_rateFor_13 rfl ?_
      refine jj_sipush (v := 9999) C dX10_rateFor_15 (by decide) ?_
      refine jj_icmp_gtF (tgt := 49) C dX10_rateFor_18 (by decide) (by decide) ?_
      refine jj_aload_n C dX10_rateFor_21 rfl ?_
      refine jj_get C jk_11 5 (by decide) jw_159 0 rfl rfl dX10_rateFor_22 ?_
      refine jj_aload_n C dX10_rateFor_25 rfl ?_
      refine jj_get C jk_11 3 (by decide) jw_135 0 rfl rfl dX10_rateFor_26 ?_
      refine jj_iload_n C dX10_rateFor_29 rfl ?_
      refine jj_iload C dX10_rateFor_30 rfl ?_
      refine jq_callV (rest := []) C (ct_X1_payAfterRate_1 hl D cA ak h2 h1 h11 h7 h8 h9 h10 a0 (-9000)) [1, 2] [0] rfl rfl (by decide) (by decide) (by decide) 0 rfl rfl rfl jw_535 jw_536 jw_537 jw_146 jw_534 jn_X1_payAfterRate rfl (jj_le rfl) (jj_le rfl) (jj_le rfl) (jj_le rfl) (jj_le rfl) dX10_rateFor_32 rfl (fun _ _ hX => hX.elim) (fun w1 r O_13 => ?_)
      obtain ⟨rfl, rfl⟩ := O_13
      refine jj_apd rfl ?_
      refine jj_lload_n C dX10_rateFor_35 rfl ?_
      refine jj_lcmp_ltF (tgt := 43) C dX10_rateFor_36 dX10_rateFor_37 (by decide) (by first | exact Int64.not_lt.mpr c_10 | exact Int32.not_lt.mpr c_10) ?_
      refine jj_iload C dX10_rateFor_40 rfl ?_
      exact jj_iret C ⟨c_6, c_7, c_10, rfl⟩ dX10_rateFor_42 (jj_le rfl) (jj_le rfl)
    · refine jj_apd rfl ?_
      refine jj_istore C dX10_rateFor_11 (by decide) rfl ?_
      refine jj_iload C dX10_rateFor_13 rfl ?_
      refine jj_sipush (v := 9999) C dX10_rateFor_15 (by decide) ?_
      refine jj_icmp_gtT (tgt := 49) C dX10_rateFor_18 (by decide) (by decide) ?_
      exact jj_throwWX (k := 50) (text := "no rate reaches the value") C jt_RX10_373 jw_601 (by decide +kernel) dX10_rateFor_49 dX10_rateFor_52 dX10_rateFor_53 dX10_rateFor_56 dX10_rateFor_59 hex (jj_le rfl) (jj_le rfl) (jj_le rfl) (jj_le rfl) (Or.inr (Or.inr ⟨rfl, c_6, c_7, c_11⟩)) (jj_le rfl) (jj_le rfl)


set_option maxHeartbeats 4000000 in
set_option maxRecDepth 100000 in
theorem ct_X11_no_2 {l : Launch} (hl : l.stackTraces = false) (D : va_G) (cA : Nat → ClassId) (ak : (Nat → Nat) × (Nat → Nat)) (h0 h1 h2 h3 h4 h5 h6 h7 h8 h9 h10 h11 h12 : Nat) : jj_M l D cA ak yX11_no (.code yX11_no cX11_no 2 (some .int)) 0 0 0 0 [(h0, .inr (12, [.ref h1, .ref h2, .ref h3, .ref h4, .ref h5, .ref h6, .int 0, .int 0, .long 0, .long 0, .ref h7, .ref h8, .ref h9, .int 0, .int 0, .int 0, .int 0, .int 0, .int (-1), .int 0, .int 0, .ref h10, .ref h11, .ref h12, .int 0]))] [.ref h0, .int 2] (fun (w : va_W) (r : Option Value) => (w = [(h0, .inr (12, [.ref h1, .ref h2, .ref h3, .ref h4, .ref h5, .ref h6, .int 0, .int 2, .long 0, .long 0, .ref h7, .ref h8, .ref h9, .int 0, .int 0, .int 0, .int 0, .int 0, .int (-1), .int 0, .int 0, .ref h10, .ref h11, .ref h12, .int 0]))] ∧ r = some (.int 0))) jj_noX := by
  refine jj_start hl (by decide) jw_250 (jj_le rfl) ?_
  intro p e s m args below meth c A hargs hA C hex hmn
  refine jj_aload_n C dX11_no_0 rfl ?_
  refine jj_iload_n C dX11_no_1 rfl ?_
  refine jj_put C jk_12 7 (by decide) jw_236 rfl 0 rfl rfl rfl rfl rfl dX11_no_2 ?_
  refine jj_iconst (v := 0) C dX11_no_5 (by decide) ?_
  exact jj_iret C ⟨rfl, rfl⟩ dX11_no_6 (jj_le rfl) (jj_le rfl)


set_option maxHeartbeats 4000000 in
set_option maxRecDepth 100000 in
theorem ct_X11_worthBy_1 {l : Launch} (hl : l.stackTraces = false) (D : va_G) (cA : Nat → ClassId) (ak : (Nat → Nat) × (Nat → Nat)) (h0 h1 h2 h3 h4 h5 h6 h7 h8 h9 h10 h11 h12 : Nat) (a0 : Int32) (a1 : Int32) : jj_M l D cA ak yX11_worthBy (.code yX11_worthBy cX11_worthBy 6 (some .long)) 0 0 0 0 [(h0, .inr (12, [.ref h1, .ref h2, .ref h3, .ref h4, .ref h5, .ref h6, .int 0, .int 0, .long 0, .long 0, .ref h7, .ref h8, .ref h9, .int 0, .int 0, .int 0, .int 0, .int 0, .int (-1), .int 0, .int 0, .ref h10, .ref h11, .ref h12, .int 0])), (h1, .inl (cA 2, 334, .inr (.inl (vp_updL (vp_updL (fun _ => 0) 0 1) 4 100))))] [.ref h0, .int a0, .int a1] (fun (w : va_W) (r : Option Value) => (w = [(h0, .inr (12, [.ref h1, .ref h2, .ref h3, .ref h4, .ref h5, .ref h6, .int 0, .int 0, .long 0, .long 0, .ref h7, .ref h8, .ref h9, .int 0, .int 0, .int 0, .int 0, .int 0, .int (-1), .int 0, .int 0, .ref h10, .ref h11, .ref h12, .int 0])), (h1, .inl (cA 2, 334, .inr (.inl (vp_updL (vp_updL (fun _ => 0) 0 1) 4 100))))] ∧ r = some (.long 0))) jj_noX := by
  refine jj_start hl (by decide) jw_603 (jj_le rfl) ?_
  intro p e s m args below meth c A hargs hA C hex hmn
  refine jj_iconst (v := 0) C dX11_worthBy_0 (by decide) ?_
  refine jj_istore_n C dX11_worthBy_1 (by decide) rfl ?_
  refine jj_iload_n C dX11_worthBy_2 rfl ?_
  refine jj_i2l (v := 0) C dX11_worthBy_3 (by decide) ?_
  refine jj_aload_n C dX11_worthBy_4 rfl ?_
  refine jj_get C jk_12 0 (by decide) jw_181 0 rfl rfl dX11_worthBy_5 ?_
  refine jj_bipush (v := 6) C dX11_worthBy_8 (by decide) ?_
  refine jj_lald (v := 0) C 1 rfl (vp_in_iff.mpr (by decide)) rfl dX11_worthBy_10 ?_
  refine jj_lcmp_geT (tgt := 74) C dX11_worthBy_11 dX11_worthBy_12 (by decide) (by decide) ?_
  refine jj_lconst (v := 0) C dX11_worthBy_74 (by decide) ?_
  refine jj_lstore_n C dX11_worthBy_75 (by decide) rfl ?_
  refine jj_iconst (v := 0) C dX11_worthBy_76 (by decide) ?_
  refine jj_istore C dX11_worthBy_77 (by decide) rfl ?_
  refine jj_iload C dX11_worthBy_79 rfl ?_
  refine jj_i2l (v := 0) C dX11_worthBy_81 (by decide) ?_
  refine jj_aload_n C dX11_worthBy_82 rfl ?_
  refine jj_get C jk_12 0 (by decide) jw_181 0 rfl rfl dX11_worthBy_83 ?_
  refine jj_bipush (v := 7) C dX11_worthBy_86 (by decide) ?_
  refine jj_lald (v := 0) C 1 rfl (vp_in_iff.mpr (by decide)) rfl dX11_worthBy_88 ?_
  refine jj_lcmp_geT (tgt := 129) C dX11_worthBy_89 dX11_worthBy_90 (by decide) (by decide) ?_
  refine jj_lload_n C dX11_worthBy_129 rfl ?_
  exact jj_lret C ⟨rfl, rfl⟩ dX11_worthBy_130 (jj_le rfl) (jj_le rfl)


set_option maxHeartbeats 4000000 in
set_option maxRecDepth 100000 in
theorem ct_X11_rateFor_1 {l : Launch} (hl : l.stackTraces = false) (D : va_G) (cA : Nat → ClassId) (ak : (Nat → Nat) × (Nat → Nat)) (h0 h1 h2 h3 h4 h5 h6 h7 h8 h9 h10 h11 h12 : Nat) (a0 : Int32) (b1 : Int64) : jj_M l D cA ak yX11_rateFor (.code yX11_rateFor cX11_rateFor 5 (some .int)) 3 67 0 0 [(h0, .inr (12, [.ref h1, .ref h2, .ref h3, .ref h4, .ref h5, .ref h6, .int 0, .int 0, .long 0, .long 0, .ref h7, .ref h8, .ref h9, .int 0, .int 0, .int 0, .int 0, .int 0, .int (-1), .int 0, .int 0, .ref h10, .ref h11, .ref h12, .int 0])), (h1, .inl (cA 2, 334, .inr (.inl (vp_updL (vp_updL (fun _ => 0) 0 1) 4 100))))] [.ref h0, .int a0, .long b1] (fun (w : va_W) (r : Option Value) => (a0.toInt64 < 0 ∧ w = [(h1, .inl (cA 2, 334, .inr (.inl (vp_updL (vp_updL (fun _ => 0) 0 1) 4 100)))), (h0, .inr (12, [.ref h1, .ref h2, .ref h3, .ref h4, .ref h5, .ref h6, .int 0, .int 1, .long 0, .long 0, .ref h7, .ref h8, .ref h9, .int 0, .int 0, .int 0, .int 0, .int 0, .int (-1), .int 0, .int 0, .ref h10, .ref h11, .ref h12, .int 0]))] ∧ r = some (.int 0)) ∨ (¬ a0.toInt64 < 0 ∧ 0 < a0.toInt64 ∧ w = [(h1, .inl (cA 2, 334, .inr (.inl (vp_updL (vp_updL (fun _ => 0) 0 1) 4 100)))), (h0, .inr (12, [.ref h1, .ref h2, .ref h3, .ref h4, .ref h5, .ref h6, .int 0, .int 1, .long 0, .long 0, .ref h7, .ref h8, .ref h9, .int 0, .int 0, .int 0, .int 0, .int 0, .int (-1), .int 0, .int 0, .ref h10, .ref h11, .ref h12, .int 0]))] ∧ r = some (.int 0)) ∨ (¬ a0.toInt64 < 0 ∧ ¬ 0 < a0.toInt64 ∧ 0 < b1 ∧ w = [(h1, .inl (cA 2, 334, .inr (.inl (vp_updL (vp_updL (fun _ => 0) 0 1) 4 100)))), (h0, .inr (12, [.ref h1, .ref h2, .ref h3, .ref h4, .ref h5, .ref h6, .int 0, .int 2, .long 0, .long 0, .ref h7, .ref h8, .ref h9, .int 0, .int 0, .int 0, .int 0, .int 0, .int (-1), .int 0, .int 0, .ref h10, .ref h11, .ref h12, .int 0]))] ∧ r = some (.int 0)) ∨ (¬ a0.toInt64 < 0 ∧ ¬ 0 < a0.toInt64 ∧ ¬ 0 < b1 ∧ w = [(h0, .inr (12, [.ref h1, .ref h2, .ref h3, .ref h4, .ref h5, .ref h6, .int 0, .int 0, .long 0, .long 0, .ref h7, .ref h8, .ref h9, .int 0, .int 0, .int 0, .int 0, .int 0, .int (-1), .int 0, .int 0, .ref h10, .ref h11, .ref h12, .int 0])), (h1, .inl (cA 2, 334, .inr (.inl (vp_updL (vp_updL (fun _ => 0) 0 1) 4 100))))] ∧ r = some (.int (-9000)))) jj_noX := by
  refine jj_start hl (by decide) jw_608 (jj_le rfl) ?_
  intro p e s m args below meth c A hargs hA C hex hmn
  refine jj_aload_n C dX11_rateFor_0 rfl ?_
  refine jj_iload_n C dX11_rateFor_1 rfl ?_
  refine jq_callV (rest := []) C (ct_X11_isNoInvestor_1 hl D cA ak h0 h1 h2 h3 h4 h5 h6 h7 h8 h9 h10 h11 h12 a0) [0, 1] [] rfl rfl (by decide) (by decide) (by decide) 0 rfl rfl rfl jw_311 jw_312 jw_313 jw_224 jw_310 jn_X11_isNoInvestor rfl (jj_le rfl) (jj_le rfl) (jj_le rfl) (jj_le rfl) (jj_le rfl) dX11_rateFor_2 rfl (fun _ _ hX => hX.elim) (fun w1 r O_2 => ?_)
  rcases O_2 with ⟨c_3, rfl, rfl⟩ | ⟨c_4, c_5, rfl, rfl⟩ | ⟨c_6, c_7, rfl, rfl⟩
  · refine jj_apd rfl ?_
    refine jj_if_eqF (tgt := 10) C dX11_rateFor_5 (by decide) (by decide) ?_
    refine jj_iconst (v := 0) C dX11_rateFor_8 (by decide) ?_
    exact jj_iret C (Or.inl ⟨c_3, rfl, rfl⟩) dX11_rateFor_9 (jj_le rfl) (jj_le rfl)
  · refine jj_apd rfl ?_
    refine jj_if_eqF (tgt := 10) C dX11_rateFor_5 (by decide) (by decide) ?_
    refine jj_iconst (v := 0) C dX11_rateFor_8 (by decide) ?_
    exact jj_iret C (Or.inr (Or.inl ⟨c_4, c_5, rfl, rfl⟩)) dX11_rateFor_9 (jj_le rfl) (jj_le rfl)
  · refine jj_apd rfl ?_
    refine jj_if_eqT (tgt := 10) C dX11_rateFor_5 (by decide) (by decide) ?_
    refine jj_sipush (v := (-9000)) C dX11_rateFor_10 (by decide) ?_
    refine jj_istore C dX11_rateFor_13 (by decide) rfl ?_
    rcases jj_em (0 < b1) with hp | hp
    · have hL : ∀ (n i : Nat), i + n = 19000 → jj_J p l e (jj_rm 3 67 0 0) s m args below meth c 5 A (vx_MQ below (jj_q D A (fun (w : va_W) (r : Option Value) => (a0.toInt64 < 0 ∧ w = [(h1, .inl (cA 2, 334, .inr (.inl (vp_updL (vp_updL (fun _ => 0) 0 1) 4 100)))), (h0, .inr (12, [.ref h1, .ref h2, .ref h3, .ref h4, .ref h5, .ref h6, .int 0, .int 1, .long 0, .long 0, .ref h7, .ref h8, .ref h9, .int 0, .int 0, .int 0, .int 0, .int 0, .int (-1), .int 0, .int 0, .ref h10, .ref h11, .ref h12, .int 0]))] ∧ r = some (.int 0)) ∨ (¬ a0.toInt64 < 0 ∧ 0 < a0.toInt64 ∧ w = [(h1, .inl (cA 2, 334, .inr (.inl (vp_updL (vp_updL (fun _ => 0) 0 1) 4 100)))), (h0, .inr (12, [.ref h1, .ref h2, .ref h3, .ref h4, .ref h5, .ref h6, .int 0, .int 1, .long 0, .long 0, .ref h7, .ref h8, .ref h9, .int 0, .int 0, .int 0, .int 0, .int 0, .int (-1), .int 0, .int 0, .ref h10, .ref h11, .ref h12, .int 0]))] ∧ r = some (.int 0)) ∨ (¬ a0.toInt64 < 0 ∧ ¬ 0 < a0.toInt64 ∧ 0 < b1 ∧ w = [(h1, .inl (cA 2, 334, .inr (.inl (vp_updL (vp_updL (fun _ => 0) 0 1) 4 100)))), (h0, .inr (12, [.ref h1, .ref h2, .ref h3, .ref h4, .ref h5, .ref h6, .int 0, .int 2, .long 0, .long 0, .ref h7, .ref h8, .ref h9, .int 0, .int 0, .int 0, .int 0, .int 0, .int (-1), .int 0, .int 0, .ref h10, .ref h11, .ref h12, .int 0]))] ∧ r = some (.int 0)) ∨ (¬ a0.toInt64 < 0 ∧ ¬ 0 < a0.toInt64 ∧ ¬ 0 < b1 ∧ w = [(h0, .inr (12, [.ref h1, .ref h2, .ref h3, .ref h4, .ref h5, .ref h6, .int 0, .int 0, .long 0, .long 0, .ref h7, .ref h8, .ref h9, .int 0, .int 0, .int 0, .int 0, .int 0, .int (-1), .int 0, .int 0, .ref h10, .ref h11, .ref h12, .int 0])), (h1, .inl (cA 2, 334, .inr (.inl (vp_updL (vp_updL (fun _ => 0) 0 1) 4 100))))] ∧ r = some (.int (-9000))))) (jj_x D A jj_noX) args s 0 0 A) (jj_X D A [(h1, .inl (cA 2, 334, .inr (.inl (vp_updL (vp_updL (fun _ => 0) 0 1) 4 100)))), (h0, .inr (12, [.ref h1, .ref h2, .ref h3, .ref h4, .ref h5, .ref h6, .int 0, .int 0, .long 0, .long 0, .ref h7, .ref h8, .ref h9, .int 0, .int 0, .int 0, .int 0, .int 0, .int (-1), .int 0, .int 0, .ref h10, .ref h11, .ref h12, .int 0]))]) 0 0 15 [(4, .int (nI i - 9000)), (0, .ref h0), (1, .int a0), (2, .long b1)] [] := by
        intro n
        induction n with
        | zero =>
          intro i hin
          obtain rfl : i = 19000 := by omega
          show jj_J p l e (jj_rm 3 67 0 0) s m args below meth c 5 A (vx_MQ below (jj_q D A (fun (w : va_W) (r : Option Value) => (a0.toInt64 < 0 ∧ w = [(h1, .inl (cA 2, 334, .inr (.inl (vp_updL (vp_updL (fun _ => 0) 0 1) 4 100)))), (h0, .inr (12, [.ref h1, .ref h2, .ref h3, .ref h4, .ref h5, .ref h6, .int 0, .int 1, .long 0, .long 0, .ref h7, .ref h8, .ref h9, .int 0, .int 0, .int 0, .int 0, .int 0, .int (-1), .int 0, .int 0, .ref h10, .ref h11, .ref h12, .int 0]))] ∧ r = some (.int 0)) ∨ (¬ a0.toInt64 < 0 ∧ 0 < a0.toInt64 ∧ w = [(h1, .inl (cA 2, 334, .inr (.inl (vp_updL (vp_updL (fun _ => 0) 0 1) 4 100)))), (h0, .inr (12, [.ref h1, .ref h2, .ref h3, .ref h4, .ref h5, .ref h6, .int 0, .int 1, .long 0, .long 0, .ref h7, .ref h8, .ref h9, .int 0, .int 0, .int 0, .int 0, .int 0, .int (-1), .int 0, .int 0, .ref h10, .ref h11, .ref h12, .int 0]))] ∧ r = some (.int 0)) ∨ (¬ a0.toInt64 < 0 ∧ ¬ 0 < a0.toInt64 ∧ 0 < b1 ∧ w = [(h1, .inl (cA 2, 334, .inr (.inl (vp_updL (vp_updL (fun _ => 0) 0 1) 4 100)))), (h0, .inr (12, [.ref h1, .ref h2, .ref h3, .ref h4, .ref h5, .ref h6, .int 0, .int 2, .long 0, .long 0, .ref h7, .ref h8, .ref h9, .int 0, .int 0, .int 0, .int 0, .int 0, .int (-1), .int 0, .int 0, .ref h10, .ref h11, .ref h12, .int 0]))] ∧ r = some (.int 0)) ∨ (¬ a0.toInt64 < 0 ∧ ¬ 0 < a0.toInt64 ∧ ¬ 0 < b1 ∧ w = [(h0, .inr (12, [.ref h1, .ref h2, .ref h3, .ref h4, .ref h5, .ref h6, .int 0, .int 0, .long 0, .long 0, .ref h7, .ref h8, .ref h9, .int 0, .int 0, .int 0, .int 0, .int 0, .int (-1), .int 0, .int 0, .ref h10, .ref h11, .ref h12, .int 0])), (h1, .inl (cA 2, 334, .inr (.inl (vp_updL (vp_updL (fun _ => 0) 0 1) 4 100))))] ∧ r = some (.int (-9000))))) (jj_x D A jj_noX) args s 0 0 A) (jj_X D A [(h1, .inl (cA 2, 334, .inr (.inl (vp_updL (vp_updL (fun _ => 0) 0 1) 4 100)))), (h0, .inr (12, [.ref h1, .ref h2, .ref h3, .ref h4, .ref h5, .ref h6, .int 0, .int 0, .long 0, .long 0, .ref h7, .ref h8, .ref h9, .int 0, .int 0, .int 0, .int 0, .int 0, .int (-1), .int 0, .int 0, .ref h10, .ref h11, .ref h12, .int 0]))]) 0 0 15 [(4, .int 10000), (0, .ref h0), (1, .int a0), (2, .long b1)] []
          refine jj_iload C dX11_rateFor_15 rfl ?_
          refine jj_sipush (v := 9999) C dX11_rateFor_17 (by decide) ?_
          refine jj_icmp_gtT (tgt := 44) C dX11_rateFor_20 (by decide) (by decide) ?_
          refine jj_aload_n C dX11_rateFor_44 rfl ?_
          refine jj_iconst (v := 2) C dX11_rateFor_45 (by decide) ?_
          refine jq_callV (rest := []) C (ct_X11_no_2 hl D cA ak h0 h1 h2 h3 h4 h5 h6 h7 h8 h9 h10 h11 h12) [1] [0] rfl rfl (by decide) (by decide) (by decide) 0 rfl rfl rfl jw_251 jw_252 jw_253 jw_224 jw_250 jn_X11_no rfl (jj_le rfl) (jj_le rfl) (jj_le rfl) (jj_le rfl) (jj_le rfl) dX11_rateFor_46 rfl (fun _ _ hX => hX.elim) (fun w1 r O_9 => ?_)
          obtain ⟨rfl, rfl⟩ := O_9
          refine jj_apd rfl ?_
          exact jj_iret C (Or.inr (Or.inr (Or.inl ⟨c_6, c_7, hp, rfl, rfl⟩))) dX11_rateFor_49 (jj_le rfl) (jj_le rfl)
        | succ n ih =>
          intro i hin
          refine jj_iload C dX11_rateFor_15 rfl ?_
          refine jj_sipush (v := 9999) C dX11_rateFor_17 (by decide) ?_
          refine jj_icmp_gtF (tgt := 44) C dX11_rateFor_20 (by decide) (jj_rt i (by omega)) ?_
          refine jj_aload_n C dX11_rateFor_23 rfl ?_
          refine jj_iload_n C dX11_rateFor_24 rfl ?_
          refine jj_iload C dX11_rateFor_25 rfl ?_
          refine jq_callV (rest := []) C (ct_X11_worthBy_1 hl D cA ak h0 h1 h2 h3 h4 h5 h6 h7 h8 h9 h10 h11 h12 a0 (nI i - 9000)) [1, 0] [] rfl rfl (by decide) (by decide) (by decide) 0 rfl rfl rfl jw_604 jw_605 jw_606 jw_224 jw_603 jn_X11_worthBy rfl (jj_le rfl) (jj_le rfl) (jj_le rfl) (jj_le rfl) (jj_le rfl) dX11_rateFor_27 rfl (fun _ _ hX => hX.elim) (fun w1 r O_11 => ?_)
          obtain ⟨rfl, rfl⟩ := O_11
          refine jj_apd rfl ?_
          refine jj_lload_n C dX11_rateFor_30 rfl ?_
          refine jj_lcmp_ltT (tgt := 38) C dX11_rateFor_31 dX11_rateFor_32 (by decide) hp ?_
          refine jj_iinc C dX11_rateFor_38 rfl rfl (by decide) rfl ?_
          refine jj_goto (tgt := 15) C dX11_rateFor_41 (by decide) ?_
          rw [jj_rtS i]
          refine jj_drop [1, 0] rfl (by decide) ?_
          exact ih (i + 1) (by omega)
      exact hL 19000 0 rfl
    · refine jj_iload C dX11_rateFor_15 rfl ?_
      refine jj_sipush (v := 9999) C dX11_rateFor_17 (by decide) ?_
      refine jj_icmp_gtF (tgt := 44) C dX11_rateFor_20 (by decide) (by decide) ?_
      refine jj_aload_n C dX11_rateFor_23 rfl ?_
      refine jj_iload_n C dX11_rateFor_24 rfl ?_
      refine jj_iload C dX11_rateFor_25 rfl ?_
      refine jq_callV (rest := []) C (ct_X11_worthBy_1 hl D cA ak h0 h1 h2 h3 h4 h5 h6 h7 h8 h9 h10 h11 h12 a0 (-9000)) [1, 0] [] rfl rfl (by decide) (by decide) (by decide) 0 rfl rfl rfl jw_604 jw_605 jw_606 jw_224 jw_603 jn_X11_worthBy rfl (jj_le rfl) (jj_le rfl) (jj_le rfl) (jj_le rfl) (jj_le rfl) dX11_rateFor_27 rfl (fun _ _ hX => hX.elim) (fun w1 r O_13 => ?_)
      obtain ⟨rfl, rfl⟩ := O_13
      refine jj_apd rfl ?_
      refine jj_lload_n C dX11_rateFor_30 rfl ?_
      refine jj_lcmp_ltF (tgt := 38) C dX11_rateFor_31 dX11_rateFor_32 (by decide) hp ?_
      refine jj_iload C dX11_rateFor_35 rfl ?_
      exact jj_iret C (Or.inr (Or.inr (Or.inr ⟨c_6, c_7, hp, rfl, rfl⟩))) dX11_rateFor_37 (jj_le rfl) (jj_le rfl)


set_option maxHeartbeats 4000000 in
set_option maxRecDepth 100000 in
theorem ct_X0_netOfAll_1 {l : Launch} (hl : l.stackTraces = false) (D : va_G) (cA : Nat → ClassId) (ak : (Nat → Nat) × (Nat → Nat)) (h0 h1 h2 h3 h4 : Nat) : jj_M l D cA ak yX0_netOfAll (.code yX0_netOfAll cX0_netOfAll 4 (some .long)) 0 0 0 0 [(h0, .inr (2, [.int 1, .int 0, .int 0, .int 0, .int 100, .int 0, .int 0, .int 0, .int 0, .int 0, .ref h1, .ref h2, .ref h3, .ref h4]))] [.ref h0] (fun (w : va_W) (r : Option Value) => (w = [(h0, .inr (2, [.int 1, .int 0, .int 0, .int 0, .int 100, .int 0, .int 0, .int 0, .int 0, .int 0, .ref h1, .ref h2, .ref h3, .ref h4]))] ∧ r = some (.long 0))) jj_noX := by
  refine jj_start hl (by decide) jw_609 (jj_le rfl) ?_
  intro p e s m args below meth c A hargs hA C hex hmn
  refine jj_lconst (v := 0) C dX0_netOfAll_0 (by decide) ?_
  refine jj_lstore_n C dX0_netOfAll_1 (by decide) rfl ?_
  refine jj_iconst (v := 0) C dX0_netOfAll_2 (by decide) ?_
  refine jj_istore_n C dX0_netOfAll_3 (by decide) rfl ?_
  refine jj_iload_n C dX0_netOfAll_4 rfl ?_
  refine jj_aload_n C dX0_netOfAll_5 rfl ?_
  refine jj_get C jk_2 7 (by decide) jw_66 0 rfl rfl dX0_netOfAll_6 ?_
  refine jj_icmp_geT (tgt := 44) C dX0_netOfAll_9 (by decide) (by decide) ?_
  refine jj_lload_n C dX0_netOfAll_44 rfl ?_
  exact jj_lret C ⟨rfl, rfl⟩ dX0_netOfAll_45 (jj_le rfl) (jj_le rfl)


set_option maxHeartbeats 4000000 in
set_option maxRecDepth 100000 in
theorem ct_X10_daysUntil_1 {l : Launch} (hl : l.stackTraces = false) (D : va_G) (cA : Nat → ClassId) (ak : (Nat → Nat) × (Nat → Nat)) (h0 h1 h2 h3 h4 h5 h6 h7 h8 h9 h10 h11 h12 h13 h14 : Nat) (b0 : Int64) : jj_M l D cA ak yX10_daysUntil (.code yX10_daysUntil cX10_daysUntil 4 (some .int)) 6 82 1 6 [(h0, .inr (11, [.ref h5, .int 0, .int (-1), .ref h1, .ref h2, .ref h6, .ref h7, .int 0, .int 0, .ref h8])), (h1, .inr (2, [.int 1, .int 0, .int 0, .int 0, .int 100, .int 0, .int 0, .int 0, .int 0, .int 0, .ref h3, .ref h9, .ref h10, .ref h11])), (h2, .inr (2, [.int 1, .int 0, .int 0, .int 0, .int 100, .int 0, .int 0, .int 0, .int 0, .int 0, .ref h4, .ref h12, .ref h13, .ref h14])), (h3, .inl (cA 2, 6, .inr (.inl (fun _ => 0)))), (h4, .inl (cA 2, 6, .inr (.inl (fun _ => 0))))] [.ref h0, .long b0] (fun (w : va_W) (r : Option Value) => (0 ≤ b0 ∧ r = some (.int 0))) (fun (E : String) (w : va_W) => (E = "java/lang/IllegalArgumentException" ∧ ¬ 0 ≤ b0)) := by
  refine jj_start hl (by decide) jw_614 (jj_le rfl) ?_
  intro p e s m args below meth c A hargs hA C hex hmn
  refine jj_lload_n C dX10_daysUntil_0 rfl ?_
  refine jj_lconst (v := 0) C dX10_daysUntil_1 (by decide) ?_
  refine jj_lcmp_ge (tgt := 17) C dX10_daysUntil_2 dX10_daysUntil_3 (by decide) (fun c_1 => ?_) (fun c_1 => ?_)
  · refine jj_aload_n C dX10_daysUntil_17 rfl ?_
    refine jj_get C jk_11 4 (by decide) jw_136 0 rfl rfl dX10_daysUntil_18 ?_
    refine jj_aload_n C dX10_daysUntil_21 rfl ?_
    refine jj_get C jk_11 3 (by decide) jw_135 0 rfl rfl dX10_daysUntil_22 ?_
    refine jq_callV (rest := []) C (ct_X0_copyFrom_1 hl D cA ak h2 h1 h4 h3 h12 h13 h14 h9 h10 h11) [2, 1, 4, 3] [0] rfl rfl (by decide) (by decide) (by decide) 0 rfl rfl rfl jw_275 jw_276 jw_277 jw_57 jw_274 jn_X0_copyFrom rfl (jj_le rfl) (jj_le rfl) (jj_le rfl) (jj_le rfl) (jj_le rfl) dX10_daysUntil_25 rfl (fun _ _ hX => hX.elim) (fun w1 r O_3 => ?_)
    obtain ⟨rfl, rfl⟩ := O_3
    refine jj_apd rfl ?_
    refine jj_iconst (v := 0) C dX10_daysUntil_28 (by decide) ?_
    refine jj_istore_n C dX10_daysUntil_29 (by decide) rfl ?_
    refine jj_iload_n C dX10_daysUntil_30 rfl ?_
    refine jj_sipush (v := 400) C dX10_daysUntil_31 (by decide) ?_
    refine jj_icmp_gtF (tgt := 66) C dX10_daysUntil_34 (by decide) (by decide) ?_
    refine jj_aload_n C dX10_daysUntil_37 rfl ?_
    refine jj_get C jk_11 4 (by decide) jw_136 0 rfl rfl dX10_daysUntil_38 ?_
    refine jq_callV (rest := []) C (ct_X0_netOfAll_1 hl D cA ak h2 h4 h12 h13 h14) [1] [0, 2, 3, 4] rfl rfl (by decide) (by decide) (by decide) 0 rfl rfl rfl jw_610 jw_611 jw_612 jw_57 jw_609 jn_X0_netOfAll rfl (jj_le rfl) (jj_le rfl) (jj_le rfl) (jj_le rfl) (jj_le rfl) dX10_daysUntil_41 rfl (fun _ _ hX => hX.elim) (fun w1 r O_5 => ?_)
    obtain ⟨rfl, rfl⟩ := O_5
    refine jj_apd rfl ?_
    refine jj_lload_n C dX10_daysUntil_44 rfl ?_
    refine jj_lcmp_gtF (tgt := 51) C dX10_daysUntil_45 dX10_daysUntil_46 (by decide) (by first | exact Int64.not_lt.mpr c_1 | exact Int32.not_lt.mpr c_1) ?_
    refine jj_iload_n C dX10_daysUntil_49 rfl ?_
    exact jj_iret C ⟨c_1, rfl⟩ dX10_daysUntil_50 (jj_le rfl) (jj_le rfl)
  · exact jj_throwW (k := 51) (text := "no such assets") C jt_RX10_75 jw_244 (by decide +kernel) dX10_daysUntil_6 dX10_daysUntil_9 dX10_daysUntil_10 dX10_daysUntil_13 dX10_daysUntil_16 hex (jj_le rfl) (jj_le rfl) (jj_le rfl) (jj_le rfl) ⟨rfl, c_1⟩ (jj_le rfl) (jj_le rfl)


set_option maxHeartbeats 4000000 in
set_option maxRecDepth 100000 in
theorem ct_X11_netAll_1 {l : Launch} (hl : l.stackTraces = false) (D : va_G) (cA : Nat → ClassId) (ak : (Nat → Nat) × (Nat → Nat)) (h0 h1 h2 h3 h4 h5 h6 h7 h8 h9 h10 h11 h12 : Nat) : jj_M l D cA ak yX11_netAll (.code yX11_netAll cX11_netAll 4 (some .long)) 0 0 0 0 [(h0, .inr (12, [.ref h1, .ref h2, .ref h3, .ref h4, .ref h5, .ref h6, .int 0, .int 0, .long 0, .long 0, .ref h7, .ref h8, .ref h9, .int 0, .int 0, .int 0, .int 0, .int 0, .int (-1), .int 0, .int 0, .ref h10, .ref h11, .ref h12, .int 0])), (h1, .inl (cA 2, 334, .inr (.inl (vp_updL (vp_updL (fun _ => 0) 0 1) 4 100))))] [.ref h0] (fun (w : va_W) (r : Option Value) => (w = [(h0, .inr (12, [.ref h1, .ref h2, .ref h3, .ref h4, .ref h5, .ref h6, .int 0, .int 0, .long 0, .long 0, .ref h7, .ref h8, .ref h9, .int 0, .int 0, .int 0, .int 0, .int 0, .int (-1), .int 0, .int 0, .ref h10, .ref h11, .ref h12, .int 0])), (h1, .inl (cA 2, 334, .inr (.inl (vp_updL (vp_updL (fun _ => 0) 0 1) 4 100))))] ∧ r = some (.long 0))) jj_noX := by
  refine jj_start hl (by decide) jw_615 (jj_le rfl) ?_
  intro p e s m args below meth c A hargs hA C hex hmn
  refine jj_lconst (v := 0) C dX11_netAll_0 (by decide) ?_
  refine jj_lstore_n C dX11_netAll_1 (by decide) rfl ?_
  refine jj_iconst (v := 0) C dX11_netAll_2 (by decide) ?_
  refine jj_istore_n C dX11_netAll_3 (by decide) rfl ?_
  refine jj_iload_n C dX11_netAll_4 rfl ?_
  refine jj_i2l (v := 0) C dX11_netAll_5 (by decide) ?_
  refine jj_aload_n C dX11_netAll_6 rfl ?_
  refine jj_get C jk_12 0 (by decide) jw_181 0 rfl rfl dX11_netAll_7 ?_
  refine jj_bipush (v := 6) C dX11_netAll_10 (by decide) ?_
  refine jj_lald (v := 0) C 1 rfl (vp_in_iff.mpr (by decide)) rfl dX11_netAll_12 ?_
  refine jj_lcmp_geT (tgt := 34) C dX11_netAll_13 dX11_netAll_14 (by decide) (by decide) ?_
  refine jj_lload_n C dX11_netAll_34 rfl ?_
  exact jj_lret C ⟨rfl, rfl⟩ dX11_netAll_35 (jj_le rfl) (jj_le rfl)


set_option maxHeartbeats 4000000 in
set_option maxRecDepth 100000 in
theorem ct_X11_daysUntil_1 {l : Launch} (hl : l.stackTraces = false) (D : va_G) (cA : Nat → ClassId) (ak : (Nat → Nat) × (Nat → Nat)) (h0 h1 h2 h3 h4 h5 h6 h7 h8 h9 h10 h11 h12 : Nat) (b0 : Int64) : jj_M l D cA ak yX11_daysUntil (.code yX11_daysUntil cX11_daysUntil 6 (some .int)) 1 23 0 0 [(h0, .inr (12, [.ref h1, .ref h3, .ref h2, .ref h4, .ref h5, .ref h6, .int 0, .int 0, .long 0, .long 0, .ref h7, .ref h8, .ref h9, .int 0, .int 0, .int 0, .int 0, .int 0, .int (-1), .int 0, .int 0, .ref h10, .ref h11, .ref h12, .int 0])), (h1, .inl (cA 2, 334, .inr (.inl (vp_updL (vp_updL (fun _ => 0) 0 1) 4 100)))), (h2, .inl (cA 2, 334, .inr (.inl (fun _ => 0))))] [.ref h0, .long b0] (fun (w : va_W) (r : Option Value) => (0 ≤ b0 ∧ w = [(h0, .inr (12, [.ref h1, .ref h3, .ref h2, .ref h4, .ref h5, .ref h6, .int 0, .int 0, .long 0, .long 0, .ref h7, .ref h8, .ref h9, .int 0, .int 0, .int 0, .int 0, .int 0, .int (-1), .int 0, .int 0, .ref h10, .ref h11, .ref h12, .int 0])), (h2, .inl (cA 2, 334, .inr (.inl (jj_cpy (vp_updL (vp_updL (fun _ => 0) 0 1) 4 100) (fun _ => 0) 334)))), (h1, .inl (cA 2, 334, .inr (.inl (jj_cpy (jj_cpy (vp_updL (vp_updL (fun _ => 0) 0 1) 4 100) (fun _ => 0) 334) (vp_updL (vp_updL (fun _ => 0) 0 1) 4 100) 334))))] ∧ r = some (.int 0)) ∨ (¬ 0 ≤ b0 ∧ w = [(h1, .inl (cA 2, 334, .inr (.inl (vp_updL (vp_updL (fun _ => 0) 0 1) 4 100)))), (h2, .inl (cA 2, 334, .inr (.inl (fun _ => 0)))), (h0, .inr (12, [.ref h1, .ref h3, .ref h2, .ref h4, .ref h5, .ref h6, .int 0, .int 1, .long 0, .long 0, .ref h7, .ref h8, .ref h9, .int 0, .int 0, .int 0, .int 0, .int 0, .int (-1), .int 0, .int 0, .ref h10, .ref h11, .ref h12, .int 0]))] ∧ r = some (.int 0))) jj_noX := by
  refine jj_start hl (by decide) jw_620 (jj_le rfl) ?_
  intro p e s m args below meth c A hargs hA C hex hmn
  refine jj_aload_n C dX11_daysUntil_0 rfl ?_
  refine jj_lload_n C dX11_daysUntil_1 rfl ?_
  refine jj_lconst (v := 0) C dX11_daysUntil_2 (by decide) ?_
  refine jj_lcmp_ge (tgt := 11) C dX11_daysUntil_3 dX11_daysUntil_4 (by decide) (fun c_1 => ?_) (fun c_1 => ?_)
  · refine jj_iconst (v := 0) C dX11_daysUntil_11 (by decide) ?_
    refine jj_iconst (v := 1) C dX11_daysUntil_12 (by decide) ?_
    refine jq_callV (rest := []) C (ct_X11_fails_2 hl D cA ak h0 h1 h3 h2 h4 h5 h6 h7 h8 h9 h10 h11 h12) [0] [1, 2] rfl rfl (by decide) (by decide) (by decide) 0 rfl rfl rfl jw_306 jw_307 jw_308 jw_224 jw_305 jn_X11_fails rfl (jj_le rfl) (jj_le rfl) (jj_le rfl) (jj_le rfl) (jj_le rfl) dX11_daysUntil_13 rfl (fun _ _ hX => hX.elim) (fun w1 r O_3 => ?_)
    obtain ⟨rfl, rfl⟩ := O_3
    refine jj_apd rfl ?_
    refine jj_if_eqT (tgt := 21) C dX11_daysUntil_16 (by decide) (by decide) ?_
    refine jj_aload_n C dX11_daysUntil_21 rfl ?_
    refine jj_get C jk_12 0 (by decide) jw_181 2 rfl rfl dX11_daysUntil_22 ?_
    refine jj_aload_n C dX11_daysUntil_25 rfl ?_
    refine jj_get C jk_12 2 (by decide) jw_209 2 rfl rfl dX11_daysUntil_26 ?_
    refine jq_callS (rest := []) C (ct_X11_copy_1 hl D cA ak h1 h2 (vp_updL (vp_updL (fun _ => 0) 0 1) 4 100) (fun _ => 0)) [0, 1] [2] rfl rfl (by decide) (by decide) (by decide) jw_327 jw_328 jw_224 jw_326 jn_X11_copy rfl (jj_le rfl) (jj_le rfl) (jj_le rfl) (jj_le rfl) (jj_le rfl) dX11_daysUntil_29 rfl (fun _ _ hX => hX.elim) (fun w1 r O_5 => ?_)
    obtain ⟨rfl, rfl⟩ := O_5
    refine jj_apd rfl ?_
    refine jj_iconst (v := 0) C dX11_daysUntil_32 (by decide) ?_
    refine jj_istore_n C dX11_daysUntil_33 (by decide) rfl ?_
    refine jj_iload_n C dX11_daysUntil_34 rfl ?_
    refine jj_sipush (v := 400) C dX11_daysUntil_35 (by decide) ?_
    refine jj_icmp_gtF (tgt := 63) C dX11_daysUntil_38 (by decide) (by decide) ?_
    refine jj_aload_n C dX11_daysUntil_41 rfl ?_
    refine jq_callV (rest := []) C (ct_X11_netAll_1 hl D cA ak h0 h1 h3 h2 h4 h5 h6 h7 h8 h9 h10 h11 h12) [0, 1] [2] rfl rfl (by decide) (by decide) (by decide) 0 rfl rfl rfl jw_616 jw_617 jw_618 jw_224 jw_615 jn_X11_netAll rfl (jj_le rfl) (jj_le rfl) (jj_le rfl) (jj_le rfl) (jj_le rfl) dX11_daysUntil_42 rfl (fun _ _ hX => hX.elim) (fun w1 r O_7 => ?_)
    obtain ⟨rfl, rfl⟩ := O_7
    refine jj_apd rfl ?_
    refine jj_lload_n C dX11_daysUntil_45 rfl ?_
    refine jj_lcmp_leT (tgt := 63) C dX11_daysUntil_46 dX11_daysUntil_47 (by decide) c_1 ?_
    refine jj_aload_n C dX11_daysUntil_63 rfl ?_
    refine jj_get C jk_12 2 (by decide) jw_209 1 rfl rfl dX11_daysUntil_64 ?_
    refine jj_aload_n C dX11_daysUntil_67 rfl ?_
    refine jj_get C jk_12 0 (by decide) jw_181 1 rfl rfl dX11_daysUntil_68 ?_
    refine jq_callS (rest := []) C (ct_X11_copy_1 hl D cA ak h2 h1 (jj_cpy (vp_updL (vp_updL (fun _ => 0) 0 1) 4 100) (fun _ => 0) 334) (vp_updL (vp_updL (fun _ => 0) 0 1) 4 100)) [0, 2] [1] rfl rfl (by decide) (by decide) (by decide) jw_327 jw_328 jw_224 jw_326 jn_X11_copy rfl (jj_le rfl) (jj_le rfl) (jj_le rfl) (jj_le rfl) (jj_le rfl) dX11_daysUntil_71 rfl (fun _ _ hX => hX.elim) (fun w1 r O_9 => ?_)
    obtain ⟨rfl, rfl⟩ := O_9
    refine jj_apd rfl ?_
    refine jj_iload_n C dX11_daysUntil_74 rfl ?_
    refine jj_sipush (v := 400) C dX11_daysUntil_75 (by decide) ?_
    refine jj_icmp_leT (tgt := 85) C dX11_daysUntil_78 (by decide) (by decide) ?_
    refine jj_iload_n C dX11_daysUntil_85 rfl ?_
    exact jj_iret C (Or.inl ⟨c_1, rfl, rfl⟩) dX11_daysUntil_86 (jj_le rfl) (jj_le rfl)
  · refine jj_iconst (v := 1) C dX11_daysUntil_7 (by decide) ?_
    refine jj_goto (tgt := 12) C dX11_daysUntil_8 (by decide) ?_
    refine jj_iconst (v := 1) C dX11_daysUntil_12 (by decide) ?_
    refine jq_callV (rest := []) C (ct_X11_fails_1 hl D cA ak h0 h1 h3 h2 h4 h5 h6 h7 h8 h9 h10 h11 h12) [0] [1, 2] rfl rfl (by decide) (by decide) (by decide) 0 rfl rfl rfl jw_306 jw_307 jw_308 jw_224 jw_305 jn_X11_fails rfl (jj_le rfl) (jj_le rfl) (jj_le rfl) (jj_le rfl) (jj_le rfl) dX11_daysUntil_13 rfl (fun _ _ hX => hX.elim) (fun w1 r O_11 => ?_)
    obtain ⟨rfl, rfl⟩ := O_11
    refine jj_apd rfl ?_
    refine jj_if_eqF (tgt := 21) C dX11_daysUntil_16 (by decide) (by decide) ?_
    refine jj_iconst (v := 0) C dX11_daysUntil_19 (by decide) ?_
    exact jj_iret C (Or.inr ⟨c_1, rfl, rfl⟩) dX11_daysUntil_20 (jj_le rfl) (jj_le rfl)


set_option maxHeartbeats 4000000 in
set_option maxRecDepth 100000 in
theorem ct_X10_bestGate_1 {l : Launch} (hl : l.stackTraces = false) (D : va_G) (cA : Nat → ClassId) (ak : (Nat → Nat) × (Nat → Nat)) (h0 h1 h2 h3 h4 h5 h6 h7 h8 h9 h10 : Nat) (a0 : Int32) : jj_M l D cA ak yX10_bestGate (.code yX10_bestGate cX10_bestGate 5 (some .int)) 8 123 1 6 [(h0, .inr (11, [.ref h2, .int 0, .int (-1), .ref h1, .ref h3, .ref h4, .ref h5, .int 0, .int 0, .ref h6])), (h1, .inr (2, [.int 1, .int 0, .int 0, .int 0, .int 100, .int 0, .int 0, .int 0, .int 0, .int 0, .ref h7, .ref h8, .ref h9, .ref h10]))] [.ref h0, .int a0] (fun (w : va_W) (r : Option Value) => False) (fun (E : String) (w : va_W) => (E = "java/lang/IndexOutOfBoundsException" ∧ a0 < 0) ∨ (E = "java/lang/IndexOutOfBoundsException" ∧ ¬ a0 < 0)) := by
  refine jj_start hl (by decide) jw_621 (jj_le rfl) ?_
  intro p e s m args below meth c A hargs hA C hex hmn
  refine jj_aload_n C dX10_bestGate_0 rfl ?_
  refine jj_iload_n C dX10_bestGate_1 rfl ?_
  refine jq_callV (rest := []) C (ct_X10_checkRequest_1 hl D cA ak h0 h1 h2 h3 h4 h5 h6 h7 h8 h9 h10 a0) [0, 1] [] rfl rfl (by decide) (by decide) (by decide) 0 rfl rfl rfl jw_393 jw_394 jw_395 jw_271 jw_392 jn_X10_checkRequest rfl (jj_le rfl) (jj_le rfl) (jj_le rfl) (jj_le rfl) (jj_le rfl) dX10_bestGate_2 rfl (fun E w1 X_1 => ?_) (fun w1 r O_2 => ?_)
  · rcases X_1 with ⟨rfl, c_3⟩ | ⟨rfl, c_4⟩
    · refine jj_leftY ?_
      exact jj_out C hex (Or.inl ⟨rfl, c_3⟩) (jj_le rfl) (jj_le rfl)
    · refine jj_leftY ?_
      exact jj_out C hex (Or.inr ⟨rfl, c_4⟩) (jj_le rfl) (jj_le rfl)
  · exact O_2.elim


set_option maxHeartbeats 4000000 in
set_option maxRecDepth 100000 in
theorem ct_X11_bestGate_1 {l : Launch} (hl : l.stackTraces = false) (D : va_G) (cA : Nat → ClassId) (ak : (Nat → Nat) × (Nat → Nat)) (h0 h1 h2 h3 h4 h5 h6 h7 h8 h9 h10 h11 h12 : Nat) (a0 : Int32) : jj_M l D cA ak yX11_bestGate (.code yX11_bestGate cX11_bestGate 3 (some .int)) 2 46 0 0 [(h0, .inr (12, [.ref h1, .ref h2, .ref h3, .ref h4, .ref h5, .ref h6, .int 0, .int 0, .long 0, .long 0, .ref h7, .ref h8, .ref h9, .int 0, .int 0, .int 0, .int 0, .int 0, .int (-1), .int 0, .int 0, .ref h10, .ref h11, .ref h12, .int 0])), (h1, .inl (cA 2, 334, .inr (.inl (vp_updL (vp_updL (fun _ => 0) 0 1) 4 100))))] [.ref h0, .int a0] (fun (w : va_W) (r : Option Value) => (a0.toInt64 < 0 ∧ w = [(h1, .inl (cA 2, 334, .inr (.inl (vp_updL (vp_updL (fun _ => 0) 0 1) 4 100)))), (h0, .inr (12, [.ref h1, .ref h2, .ref h3, .ref h4, .ref h5, .ref h6, .int 0, .int 1, .long 0, .long 0, .ref h7, .ref h8, .ref h9, .int 0, .int 0, .int 0, .int 0, .int 0, .int (-1), .int 0, .int 0, .ref h10, .ref h11, .ref h12, .int 0]))] ∧ r = some (.int 0)) ∨ (¬ a0.toInt64 < 0 ∧ w = [(h1, .inl (cA 2, 334, .inr (.inl (vp_updL (vp_updL (fun _ => 0) 0 1) 4 100)))), (h0, .inr (12, [.ref h1, .ref h2, .ref h3, .ref h4, .ref h5, .ref h6, .int 0, .int 1, .long 0, .long 0, .ref h7, .ref h8, .ref h9, .int 0, .int 0, .int 0, .int 0, .int 0, .int (-1), .int 0, .int 0, .ref h10, .ref h11, .ref h12, .int 0]))] ∧ r = some (.int 0))) jj_noX := by
  refine jj_start hl (by decide) jw_622 (jj_le rfl) ?_
  intro p e s m args below meth c A hargs hA C hex hmn
  refine jj_aload_n C dX11_bestGate_0 rfl ?_
  refine jj_iload_n C dX11_bestGate_1 rfl ?_
  refine jq_callV (rest := []) C (ct_X11_isNoRequest_1 hl D cA ak h0 h1 h2 h3 h4 h5 h6 h7 h8 h9 h10 h11 h12 a0) [0, 1] [] rfl rfl (by decide) (by decide) (by decide) 0 rfl rfl rfl jw_399 jw_400 jw_401 jw_224 jw_398 jn_X11_isNoRequest rfl (jj_le rfl) (jj_le rfl) (jj_le rfl) (jj_le rfl) (jj_le rfl) dX11_bestGate_2 rfl (fun _ _ hX => hX.elim) (fun w1 r O_2 => ?_)
  rcases O_2 with ⟨c_3, rfl, rfl⟩ | ⟨c_4, rfl, rfl⟩
  · refine jj_apd rfl ?_
    refine jj_if_eqF (tgt := 10) C dX11_bestGate_5 (by decide) (by decide) ?_
    refine jj_iconst (v := 0) C dX11_bestGate_8 (by decide) ?_
    exact jj_iret C (Or.inl ⟨c_3, rfl, rfl⟩) dX11_bestGate_9 (jj_le rfl) (jj_le rfl)
  · refine jj_apd rfl ?_
    refine jj_if_eqF (tgt := 10) C dX11_bestGate_5 (by decide) (by decide) ?_
    refine jj_iconst (v := 0) C dX11_bestGate_8 (by decide) ?_
    exact jj_iret C (Or.inr ⟨c_4, rfl, rfl⟩) dX11_bestGate_9 (jj_le rfl) (jj_le rfl)


set_option maxHeartbeats 4000000 in
set_option maxRecDepth 100000 in
theorem ct_X10_reportByte_1 {l : Launch} (hl : l.stackTraces = false) (D : va_G) (cA : Nat → ClassId) (ak : (Nat → Nat) × (Nat → Nat)) (h0 h1 h2 h3 h4 h5 h6 h7 h8 : Nat) (a0 : Int32) : jj_M l D cA ak yX10_reportByte (.code yX10_reportByte cX10_reportByte 2 (some .int)) 6 82 1 6 [(h0, .inr (11, [.ref h2, .int 0, .int (-1), .ref h3, .ref h4, .ref h5, .ref h6, .int 0, .int 0, .ref h1])), (h1, .inr (6, [.ref h7, .int 0, .ref h8]))] [.ref h0, .int a0] (fun (w : va_W) (r : Option Value) => False) (fun (E : String) (w : va_W) => (E = "java/lang/IndexOutOfBoundsException" ∧ a0 < 0) ∨ (E = "java/lang/IndexOutOfBoundsException" ∧ ¬ a0 < 0)) := by
  refine jj_start hl (by decide) jw_624 (jj_le rfl) ?_
  intro p e s m args below meth c A hargs hA C hex hmn
  refine jj_iload_n C dX10_reportByte_0 rfl ?_
  refine jj_if_lt (tgt := 15) C dX10_reportByte_1 (by decide) (fun c_1 => ?_) (fun c_1 => ?_)
  · exact jj_throwW (k := 52) (text := "no such byte") C jt_RX10_200 jw_268 (by decide +kernel) dX10_reportByte_15 dX10_reportByte_18 dX10_reportByte_19 dX10_reportByte_22 dX10_reportByte_25 hex (jj_le rfl) (jj_le rfl) (jj_le rfl) (jj_le rfl) (Or.inl ⟨rfl, c_1⟩) (jj_le rfl) (jj_le rfl)
  · refine jj_iload_n C dX10_reportByte_4 rfl ?_
    refine jj_aload_n C dX10_reportByte_5 rfl ?_
    refine jj_get C jk_11 9 (by decide) jw_178 0 rfl rfl dX10_reportByte_6 ?_
    refine jj_get C jk_6 1 (by decide) jw_623 1 rfl rfl dX10_reportByte_9 ?_
    refine jj_icmp_ltF (tgt := 26) C dX10_reportByte_12 (by decide) c_1 ?_
    exact jj_throwW (k := 52) (text := "no such byte") C jt_RX10_200 jw_268 (by decide +kernel) dX10_reportByte_15 dX10_reportByte_18 dX10_reportByte_19 dX10_reportByte_22 dX10_reportByte_25 hex (jj_le rfl) (jj_le rfl) (jj_le rfl) (jj_le rfl) (Or.inr ⟨rfl, c_1⟩) (jj_le rfl) (jj_le rfl)


set_option maxHeartbeats 4000000 in
set_option maxRecDepth 100000 in
theorem ct_X11_reportByte_1 {l : Launch} (hl : l.stackTraces = false) (D : va_G) (cA : Nat → ClassId) (ak : (Nat → Nat) × (Nat → Nat)) (h0 h1 h2 h3 h4 h5 h6 h7 h8 h9 h10 h11 h12 : Nat) (a0 : Int32) : jj_M l D cA ak yX11_reportByte (.code yX11_reportByte cX11_reportByte 2 (some .int)) 1 25 0 0 [(h0, .inr (12, [.ref h1, .ref h2, .ref h3, .ref h4, .ref h5, .ref h6, .int 0, .int 0, .long 0, .long 0, .ref h7, .ref h8, .ref h9, .int 0, .int 0, .int 0, .int 0, .int 0, .int (-1), .int 0, .int 0, .ref h10, .ref h11, .ref h12, .int 0]))] [.ref h0, .int a0] (fun (w : va_W) (r : Option Value) => (a0.toInt64 < 0 ∧ w = [(h0, .inr (12, [.ref h1, .ref h2, .ref h3, .ref h4, .ref h5, .ref h6, .int 0, .int 1, .long 0, .long 0, .ref h7, .ref h8, .ref h9, .int 0, .int 0, .int 0, .int 0, .int 0, .int (-1), .int 0, .int 0, .ref h10, .ref h11, .ref h12, .int 0]))] ∧ r = some (.int 0)) ∨ (¬ a0.toInt64 < 0 ∧ w = [(h0, .inr (12, [.ref h1, .ref h2, .ref h3, .ref h4, .ref h5, .ref h6, .int 0, .int 1, .long 0, .long 0, .ref h7, .ref h8, .ref h9, .int 0, .int 0, .int 0, .int 0, .int 0, .int (-1), .int 0, .int 0, .ref h10, .ref h11, .ref h12, .int 0]))] ∧ r = some (.int 0))) jj_noX := by
  refine jj_start hl (by decide) jw_626 (jj_le rfl) ?_
  intro p e s m args below meth c A hargs hA C hex hmn
  refine jj_aload_n C dX11_reportByte_0 rfl ?_
  refine jj_iload_n C dX11_reportByte_1 rfl ?_
  refine jj_i2l C dX11_reportByte_2 rfl ?_
  refine jj_lconst (v := 0) C dX11_reportByte_3 (by decide) ?_
  refine jj_aload_n C dX11_reportByte_4 rfl ?_
  refine jj_get C jk_12 24 (by decide) jw_625 0 rfl rfl dX11_reportByte_5 ?_
  refine jj_iconst (v := 1) C dX11_reportByte_8 (by decide) ?_
  refine jj_isub (v := (-1)) C dX11_reportByte_9 (by decide) ?_
  refine jj_i2l (v := (-1)) C dX11_reportByte_10 (by decide) ?_
  refine jq_callS (rest := [.ref h0]) C (ct_X11_in_4 hl D cA ak a0.toInt64) [] [0] rfl rfl (by decide) (by decide) (by decide) jw_247 jw_248 jw_224 jw_246 jn_X11_in rfl (jj_le rfl) (jj_le rfl) (jj_le rfl) (jj_le rfl) (jj_le rfl) dX11_reportByte_11 rfl (fun _ _ hX => hX.elim) (fun w1 r O_2 => ?_)
  rcases O_2 with ⟨c_3, rfl, rfl⟩ | ⟨c_4, rfl, rfl⟩
  · refine jj_apd rfl ?_
    refine jj_if_neF (tgt := 21) C dX11_reportByte_14 (by decide) (by decide) ?_
    refine jj_iconst (v := 1) C dX11_reportByte_17 (by decide) ?_
    refine jj_goto (tgt := 22) C dX11_reportByte_18 (by decide) ?_
    refine jj_iconst (v := 1) C dX11_reportByte_22 (by decide) ?_
    refine jq_callV (rest := []) C (ct_X11_fails_1 hl D cA ak h0 h1 h2 h3 h4 h5 h6 h7 h8 h9 h10 h11 h12) [0] [] rfl rfl (by decide) (by decide) (by decide) 0 rfl rfl rfl jw_306 jw_307 jw_308 jw_224 jw_305 jn_X11_fails rfl (jj_le rfl) (jj_le rfl) (jj_le rfl) (jj_le rfl) (jj_le rfl) dX11_reportByte_23 rfl (fun _ _ hX => hX.elim) (fun w1 r O_6 => ?_)
    obtain ⟨rfl, rfl⟩ := O_6
    refine jj_apd rfl ?_
    refine jj_if_eqF (tgt := 33) C dX11_reportByte_26 (by decide) (by decide) ?_
    refine jj_iconst (v := 0) C dX11_reportByte_29 (by decide) ?_
    refine jj_goto (tgt := 39) C dX11_reportByte_30 (by decide) ?_
    exact jj_iret C (Or.inl ⟨c_3, rfl, rfl⟩) dX11_reportByte_39 (jj_le rfl) (jj_le rfl)
  · refine jj_apd rfl ?_
    refine jj_if_neF (tgt := 21) C dX11_reportByte_14 (by decide) (by decide) ?_
    refine jj_iconst (v := 1) C dX11_reportByte_17 (by decide) ?_
    refine jj_goto (tgt := 22) C dX11_reportByte_18 (by decide) ?_
    refine jj_iconst (v := 1) C dX11_reportByte_22 (by decide) ?_
    refine jq_callV (rest := []) C (ct_X11_fails_1 hl D cA ak h0 h1 h2 h3 h4 h5 h6 h7 h8 h9 h10 h11 h12) [0] [] rfl rfl (by decide) (by decide) (by decide) 0 rfl rfl rfl jw_306 jw_307 jw_308 jw_224 jw_305 jn_X11_fails rfl (jj_le rfl) (jj_le rfl) (jj_le rfl) (jj_le rfl) (jj_le rfl) dX11_reportByte_23 rfl (fun _ _ hX => hX.elim) (fun w1 r O_8 => ?_)
    obtain ⟨rfl, rfl⟩ := O_8
    refine jj_apd rfl ?_
    refine jj_if_eqF (tgt := 33) C dX11_reportByte_26 (by decide) (by decide) ?_
    refine jj_iconst (v := 0) C dX11_reportByte_29 (by decide) ?_
    refine jj_goto (tgt := 39) C dX11_reportByte_30 (by decide) ?_
    exact jj_iret C (Or.inr ⟨c_4, rfl, rfl⟩) dX11_reportByte_39 (jj_le rfl) (jj_le rfl)


set_option maxHeartbeats 4000000 in
set_option maxRecDepth 100000 in
theorem ct_X10_undo_1 {l : Launch} (hl : l.stackTraces = false) (D : va_G) (cA : Nat → ClassId) (ak : (Nat → Nat) × (Nat → Nat)) (h0 h1 h2 h3 h4 h5 h6 : Nat) : jj_M l D cA ak yX10_undo (.code yX10_undo cX10_undo 1 (some .int)) 6 82 1 6 [(h0, .inr (11, [.ref h1, .int 0, .int (-1), .ref h2, .ref h3, .ref h4, .ref h5, .int 0, .int 0, .ref h6]))] [.ref h0] (fun (w : va_W) (r : Option Value) => False) (fun (E : String) (w : va_W) => (E = "java/lang/IllegalStateException")) := by
  refine jj_start hl (by decide) jw_627 (jj_le rfl) ?_
  intro p e s m args below meth c A hargs hA C hex hmn
  refine jj_aload_n C dX10_undo_0 rfl ?_
  refine jj_get C jk_11 8 (by decide) jw_162 0 rfl rfl dX10_undo_1 ?_
  refine jj_if_eqT (tgt := 19) C dX10_undo_4 (by decide) (by decide) ?_
  exact jj_throwW (k := 53) (text := "there is nothing to undo") C jt_RX10_64 jw_368 (by decide +kernel) dX10_undo_19 dX10_undo_22 dX10_undo_23 dX10_undo_26 dX10_undo_29 hex (jj_le rfl) (jj_le rfl) (jj_le rfl) (jj_le rfl) rfl (jj_le rfl) (jj_le rfl)


set_option maxHeartbeats 4000000 in
set_option maxRecDepth 100000 in
theorem ct_X11_undo_1 {l : Launch} (hl : l.stackTraces = false) (D : va_G) (cA : Nat → ClassId) (ak : (Nat → Nat) × (Nat → Nat)) (h0 h1 h2 h3 h4 h5 h6 h7 h8 h9 h10 h11 h12 : Nat) : jj_M l D cA ak yX11_undo (.code yX11_undo cX11_undo 2 (some .int)) 1 21 0 0 [(h0, .inr (12, [.ref h1, .ref h2, .ref h3, .ref h4, .ref h5, .ref h6, .int 0, .int 0, .long 0, .long 0, .ref h7, .ref h8, .ref h9, .int 0, .int 0, .int 0, .int 0, .int 0, .int (-1), .int 0, .int 0, .ref h10, .ref h11, .ref h12, .int 0]))] [.ref h0] (fun (w : va_W) (r : Option Value) => (w = [(h0, .inr (12, [.ref h1, .ref h2, .ref h3, .ref h4, .ref h5, .ref h6, .int 0, .int 1, .long 0, .long 0, .ref h7, .ref h8, .ref h9, .int 0, .int 0, .int 0, .int 0, .int 0, .int (-1), .int 0, .int 0, .ref h10, .ref h11, .ref h12, .int 0]))] ∧ r = some (.int 0))) jj_noX := by
  refine jj_start hl (by decide) jw_628 (jj_le rfl) ?_
  intro p e s m args below meth c A hargs hA C hex hmn
  refine jj_aload_n C dX11_undo_0 rfl ?_
  refine jj_get C jk_12 6 (by decide) jw_330 0 rfl rfl dX11_undo_1 ?_
  refine jj_if_neF (tgt := 13) C dX11_undo_4 (by decide) (by decide) ?_
  refine jj_aload_n C dX11_undo_7 rfl ?_
  refine jj_iconst (v := 1) C dX11_undo_8 (by decide) ?_
  refine jq_callV (rest := []) C (ct_X11_no_1 hl D cA ak h0 h1 h2 h3 h4 h5 h6 h7 h8 h9 h10 h11 h12) [0] [] rfl rfl (by decide) (by decide) (by decide) 0 rfl rfl rfl jw_251 jw_252 jw_253 jw_224 jw_250 jn_X11_no rfl (jj_le rfl) (jj_le rfl) (jj_le rfl) (jj_le rfl) (jj_le rfl) dX11_undo_9 rfl (fun _ _ hX => hX.elim) (fun w1 r O_2 => ?_)
  obtain ⟨rfl, rfl⟩ := O_2
  refine jj_apd rfl ?_
  exact jj_iret C ⟨rfl, rfl⟩ dX11_undo_12 (jj_le rfl) (jj_le rfl)


set_option maxHeartbeats 4000000 in
set_option maxRecDepth 100000 in
theorem ct_X9_takeBuffer_1 {l : Launch} (hl : l.stackTraces = false) (D : va_G) (cA : Nat → ClassId) (ak : (Nat → Nat) × (Nat → Nat)) (h0 h1 : Nat) : jj_M l D cA ak yX9_takeBuffer (.code yX9_takeBuffer cX9_takeBuffer 1 none) 0 0 0 0 [(h0, .inr (10, [.ref h1, .int 0, .int 0, .int 0, .int 0, .int 0, .int (-1)]))] [.ref h0] (fun (w : va_W) (r : Option Value) => (w = [(h0, .inr (10, [.ref h1, .int 0, .int 0, .int 0, .int 0, .int 0, .int (-1)]))] ∧ r = none)) jj_noX := by
  refine jj_start hl (by decide) jw_629 (jj_le rfl) ?_
  intro p e s m args below meth c A hargs hA C hex hmn
  refine jj_aload_n C dX9_takeBuffer_0 rfl ?_
  refine jj_aload_n C dX9_takeBuffer_1 rfl ?_
  refine jj_get C jk_10 1 (by decide) jw_17 0 rfl rfl dX9_takeBuffer_2 ?_
  refine jj_put C jk_10 2 (by decide) jw_18 rfl 0 rfl rfl rfl rfl rfl dX9_takeBuffer_5 ?_
  refine jj_aload_n C dX9_takeBuffer_8 rfl ?_
  refine jj_iconst (v := 0) C dX9_takeBuffer_9 (by decide) ?_
  refine jj_put C jk_10 1 (by decide) jw_17 rfl 0 rfl rfl rfl rfl rfl dX9_takeBuffer_10 ?_
  refine jj_aload_n C dX9_takeBuffer_13 rfl ?_
  refine jj_iconst (v := 0) C dX9_takeBuffer_14 (by decide) ?_
  refine jj_put C jk_10 4 (by decide) jw_20 rfl 0 rfl rfl rfl rfl rfl dX9_takeBuffer_15 ?_
  refine jj_aload_n C dX9_takeBuffer_18 rfl ?_
  refine jj_iconst (v := 0) C dX9_takeBuffer_19 (by decide) ?_
  refine jj_put C jk_10 3 (by decide) jw_19 rfl 0 rfl rfl rfl rfl rfl dX9_takeBuffer_20 ?_
  refine jj_aload_n C dX9_takeBuffer_23 rfl ?_
  refine jj_iconst (v := 0) C dX9_takeBuffer_24 (by decide) ?_
  refine jj_put C jk_10 5 (by decide) jw_21 rfl 0 rfl rfl rfl rfl rfl dX9_takeBuffer_25 ?_
  exact jj_vret C ⟨rfl, rfl⟩ dX9_takeBuffer_28 (jj_le rfl) (jj_le rfl)


set_option maxHeartbeats 4000000 in
set_option maxRecDepth 100000 in
theorem ct_X3_init_1 {l : Launch} (hl : l.stackTraces = false) (D : va_G) (cA : Nat → ClassId) (ak : (Nat → Nat) × (Nat → Nat)) (h0 h1 h2 : Nat) : jj_I l D cA ak yX3_init (.code yX3_init cX3_init 3 none) 1 12 0 0 [(h0, .inr (4, [.null, .null, .int 0]))] [.ref h0, .ref h1, .ref h2] (fun (w : va_W) (r : Option Value) => (w = [(h0, .inr (4, [.ref h1, .ref h2, .int 0]))] ∧ r = none)) := by
  refine jj_startI hl (by decide) jw_645 (jj_le rfl) ?_
  intro p e s m args below meth c A hargs hA C hmn
  refine jj_aload_n C dX3_init_0 rfl ?_
  refine jj_objInit C jw_641 jw_1 jw_2 (jj_le rfl) (jj_le rfl) dX3_init_1 ?_
  refine jj_aload_n C dX3_init_4 rfl ?_
  refine jj_iconst (v := 0) C dX3_init_5 (by decide) ?_
  refine jj_put C jk_4 2 (by decide) jw_642 rfl 0 rfl rfl rfl rfl rfl dX3_init_6 ?_
  refine jj_aload_n C dX3_init_9 rfl ?_
  refine jj_aload_n C dX3_init_10 rfl ?_
  refine jj_putF C jk_4 0 (by decide) jw_643 rfl hmn rfl 0 rfl rfl rfl rfl rfl dX3_init_11 ?_
  refine jj_aload_n C dX3_init_14 rfl ?_
  refine jj_aload_n C dX3_init_15 rfl ?_
  refine jj_putF C jk_4 1 (by decide) jw_644 rfl hmn rfl 0 rfl rfl rfl rfl rfl dX3_init_16 ?_
  exact jj_vretI C ⟨rfl, rfl⟩ dX3_init_19 (jj_le rfl) (jj_le rfl)


set_option maxHeartbeats 4000000 in
set_option maxRecDepth 100000 in
theorem ct_X0_empty_1 {l : Launch} (hl : l.stackTraces = false) (D : va_G) (cA : Nat → ClassId) (ak : (Nat → Nat) × (Nat → Nat)) (h0 h1 h2 h3 h4 : Nat) : jj_M l D cA ak yX0_empty (.code yX0_empty cX0_empty 2 none) 0 0 0 0 [(h0, .inr (2, [.int 1, .int 0, .int 0, .int 0, .int 100, .int 0, .int 0, .int 0, .int 0, .int 0, .ref h1, .ref h2, .ref h3, .ref h4])), (h1, .inl (cA 2, 6, .inr (.inl (fun _ => 0))))] [.ref h0] (fun (w : va_W) (r : Option Value) => (w = [(h0, .inr (2, [.int 1, .int 0, .int 0, .int 0, .int 100, .int 0, .int 0, .int 0, .int 0, .int 0, .ref h1, .ref h2, .ref h3, .ref h4])), (h1, .inl (cA 2, 6, .inr (.inl (vp_updL (vp_updL (vp_updL (vp_updL (vp_updL (vp_updL (fun _ => 0) 0 0) 1 0) 2 0) 3 0) 4 0) 5 0))))] ∧ r = none)) jj_noX := by
  refine jj_start hl (by decide) jw_649 (jj_le rfl) ?_
  intro p e s m args below meth c A hargs hA C hex hmn
  refine jj_aload_n C dX0_empty_0 rfl ?_
  refine jj_iconst (v := 0) C dX0_empty_1 (by decide) ?_
  refine jj_put C jk_2 5 (by decide) jw_64 rfl 0 rfl rfl rfl rfl rfl dX0_empty_2 ?_
  refine jj_aload_n C dX0_empty_5 rfl ?_
  refine jj_iconst (v := 0) C dX0_empty_6 (by decide) ?_
  refine jj_put C jk_2 6 (by decide) jw_65 rfl 0 rfl rfl rfl rfl rfl dX0_empty_7 ?_
  refine jj_aload_n C dX0_empty_10 rfl ?_
  refine jj_iconst (v := 0) C dX0_empty_11 (by decide) ?_
  refine jj_put C jk_2 7 (by decide) jw_66 rfl 0 rfl rfl rfl rfl rfl dX0_empty_12 ?_
  refine jj_aload_n C dX0_empty_15 rfl ?_
  refine jj_iconst (v := 0) C dX0_empty_16 (by decide) ?_
  refine jj_put C jk_2 8 (by decide) jw_67 rfl 0 rfl rfl rfl rfl rfl dX0_empty_17 ?_
  refine jj_aload_n C dX0_empty_20 rfl ?_
  refine jj_iconst (v := 0) C dX0_empty_21 (by decide) ?_
  refine jj_put C jk_2 9 (by decide) jw_68 rfl 0 rfl rfl rfl rfl rfl dX0_empty_22 ?_
  refine jj_iconst (v := 0) C dX0_empty_25 (by decide) ?_
  refine jj_istore_n C dX0_empty_26 (by decide) rfl ?_
  refine jj_iload_n C dX0_empty_27 rfl ?_
  refine jj_bipush (v := 6) C dX0_empty_28 (by decide) ?_
  refine jj_icmp_geF (tgt := 46) C dX0_empty_30 (by decide) (by decide) ?_
  refine jj_aload_n C dX0_empty_33 rfl ?_
  refine jj_get C jk_2 10 (by decide) jw_70 0 rfl rfl dX0_empty_34 ?_
  refine jj_iload_n C dX0_empty_37 rfl ?_
  refine jj_lconst (v := 0) C dX0_empty_38 (by decide) ?_
  refine jj_last C 1 rfl (vp_in_iff.mpr (by decide)) (g := (vp_updL (fun _ => 0) 0 0)) rfl rfl dX0_empty_39 ?_
  refine jj_iinc (v := 1) C dX0_empty_40 rfl (by decide) (by decide) rfl ?_
  refine jj_goto (tgt := 27) C dX0_empty_43 (by decide) ?_
  refine jj_iload_n C dX0_empty_27 rfl ?_
  refine jj_bipush (v := 6) C dX0_empty_28 (by decide) ?_
  refine jj_icmp_geF (tgt := 46) C dX0_empty_30 (by decide) (by decide) ?_
  refine jj_aload_n C dX0_empty_33 rfl ?_
  refine jj_get C jk_2 10 (by decide) jw_70 0 rfl rfl dX0_empty_34 ?_
  refine jj_iload_n C dX0_empty_37 rfl ?_
  refine jj_lconst (v := 0) C dX0_empty_38 (by decide) ?_
  refine jj_last C 1 rfl (vp_in_iff.mpr (by decide)) (g := (vp_updL (vp_updL (fun _ => 0) 0 0) 1 0)) rfl rfl dX0_empty_39 ?_
  refine jj_iinc (v := 2) C dX0_empty_40 rfl (by decide) (by decide) rfl ?_
  refine jj_goto (tgt := 27) C dX0_empty_43 (by decide) ?_
  refine jj_iload_n C dX0_empty_27 rfl ?_
  refine jj_bipush (v := 6) C dX0_empty_28 (by decide) ?_
  refine jj_icmp_geF (tgt := 46) C dX0_empty_30 (by decide) (by decide) ?_
  refine jj_aload_n C dX0_empty_33 rfl ?_
  refine jj_get C jk_2 10 (by decide) jw_70 0 rfl rfl dX0_empty_34 ?_
  refine jj_iload_n C dX0_empty_37 rfl ?_
  refine jj_lconst (v := 0) C dX0_empty_38 (by decide) ?_
  refine jj_last C 1 rfl (vp_in_iff.mpr (by decide)) (g := (vp_updL (vp_updL (vp_updL (fun _ => 0) 0 0) 1 0) 2 0)) rfl rfl dX0_empty_39 ?_
  refine jj_iinc (v := 3) C dX0_empty_40 rfl (by decide) (by decide) rfl ?_
  refine jj_goto (tgt := 27) C dX0_empty_43 (by decide) ?_
  refine jj_iload_n C dX0_empty_27 rfl ?_
  refine jj_bipush (v := 6) C dX0_empty_28 (by decide) ?_
  refine jj_icmp_geF (tgt := 46) C dX0_empty_30 (by decide) (by decide) ?_
  refine jj_aload_n C dX0_empty_33 rfl ?_
  refine jj_get C jk_2 10 (by decide) jw_70 0 rfl rfl dX0_empty_34 ?_
  refine jj_iload_n C dX0_empty_37 rfl ?_
  refine jj_lconst (v := 0) C dX0_empty_38 (by decide) ?_
  refine jj_last C 1 rfl (vp_in_iff.mpr (by decide)) (g := (vp_updL (vp_updL (vp_updL (vp_updL (fun _ => 0) 0 0) 1 0) 2 0) 3 0)) rfl rfl dX0_empty_39 ?_
  refine jj_iinc (v := 4) C dX0_empty_40 rfl (by decide) (by decide) rfl ?_
  refine jj_goto (tgt := 27) C dX0_empty_43 (by decide) ?_
  refine jj_iload_n C dX0_empty_27 rfl ?_
  refine jj_bipush (v := 6) C dX0_empty_28 (by decide) ?_
  refine jj_icmp_geF (tgt := 46) C dX0_empty_30 (by decide) (by decide) ?_
  refine jj_aload_n C dX0_empty_33 rfl ?_
  refine jj_get C jk_2 10 (by decide) jw_70 0 rfl rfl dX0_empty_34 ?_
  refine jj_iload_n C dX0_empty_37 rfl ?_
  refine jj_lconst (v := 0) C dX0_empty_38 (by decide) ?_
  refine jj_last C 1 rfl (vp_in_iff.mpr (by decide)) (g := (vp_updL (vp_updL (vp_updL (vp_updL (vp_updL (fun _ => 0) 0 0) 1 0) 2 0) 3 0) 4 0)) rfl rfl dX0_empty_39 ?_
  refine jj_iinc (v := 5) C dX0_empty_40 rfl (by decide) (by decide) rfl ?_
  refine jj_goto (tgt := 27) C dX0_empty_43 (by decide) ?_
  refine jj_iload_n C dX0_empty_27 rfl ?_
  refine jj_bipush (v := 6) C dX0_empty_28 (by decide) ?_
  refine jj_icmp_geF (tgt := 46) C dX0_empty_30 (by decide) (by decide) ?_
  refine jj_aload_n C dX0_empty_33 rfl ?_
  refine jj_get C jk_2 10 (by decide) jw_70 0 rfl rfl dX0_empty_34 ?_
  refine jj_iload_n C dX0_empty_37 rfl ?_
  refine jj_lconst (v := 0) C dX0_empty_38 (by decide) ?_
  refine jj_last C 1 rfl (vp_in_iff.mpr (by decide)) (g := (vp_updL (vp_updL (vp_updL (vp_updL (vp_updL (vp_updL (fun _ => 0) 0 0) 1 0) 2 0) 3 0) 4 0) 5 0)) rfl rfl dX0_empty_39 ?_
  refine jj_iinc (v := 6) C dX0_empty_40 rfl (by decide) (by decide) rfl ?_
  refine jj_goto (tgt := 27) C dX0_empty_43 (by decide) ?_
  refine jj_iload_n C dX0_empty_27 rfl ?_
  refine jj_bipush (v := 6) C dX0_empty_28 (by decide) ?_
  refine jj_icmp_geT (tgt := 46) C dX0_empty_30 (by decide) (by decide) ?_
  exact jj_vret C ⟨rfl, rfl⟩ dX0_empty_46 (jj_le rfl) (jj_le rfl)


set_option maxHeartbeats 4000000 in
set_option maxRecDepth 100000 in
theorem ct_X9_advance_1 {l : Launch} (hl : l.stackTraces = false) (D : va_G) (cA : Nat → ClassId) (ak : (Nat → Nat) × (Nat → Nat)) (h0 h1 : Nat) : jj_M l D cA ak yX9_advance (.code yX9_advance cX9_advance 1 none) 0 0 0 0 [(h0, .inr (10, [.ref h1, .int 0, .int 0, .int 0, .int 0, .int 0, .int (-1)]))] [.ref h0] (fun (w : va_W) (r : Option Value) => (w = [(h0, .inr (10, [.ref h1, .int 0, .int 0, .int 0, .int 0, .int 0, .int (-1)]))] ∧ r = none)) jj_noX := by
  refine jj_start hl (by decide) jw_654 (jj_le rfl) ?_
  intro p e s m args below meth c A hargs hA C hex hmn
  refine jj_aload_n C dX9_advance_0 rfl ?_
  refine jj_aload_n C dX9_advance_1 rfl ?_
  refine jj_get C jk_10 3 (by decide) jw_19 0 rfl rfl dX9_advance_2 ?_
  refine jj_put C jk_10 4 (by decide) jw_20 rfl 0 rfl rfl rfl rfl rfl dX9_advance_5 ?_
  refine jj_aload_n C dX9_advance_8 rfl ?_
  refine jj_get C jk_10 4 (by decide) jw_20 0 rfl rfl dX9_advance_9 ?_
  refine jj_aload_n C dX9_advance_12 rfl ?_
  refine jj_get C jk_10 2 (by decide) jw_18 0 rfl rfl dX9_advance_13 ?_
  refine jj_icmp_geT (tgt := 60) C dX9_advance_16 (by decide) (by decide) ?_
  refine jj_aload_n C dX9_advance_60 rfl ?_
  refine jj_aload_n C dX9_advance_61 rfl ?_
  refine jj_get C jk_10 4 (by decide) jw_20 0 rfl rfl dX9_advance_62 ?_
  refine jj_put C jk_10 3 (by decide) jw_19 rfl 0 rfl rfl rfl rfl rfl dX9_advance_65 ?_
  refine jj_aload_n C dX9_advance_68 rfl ?_
  refine jj_get C jk_10 4 (by decide) jw_20 0 rfl rfl dX9_advance_69 ?_
  refine jj_aload_n C dX9_advance_72 rfl ?_
  refine jj_get C jk_10 2 (by decide) jw_18 0 rfl rfl dX9_advance_73 ?_
  refine jj_icmp_ltF (tgt := 87) C dX9_advance_76 (by decide) (by decide) ?_
  refine jj_aload_n C dX9_advance_79 rfl ?_
  refine jj_iconst (v := 0) C dX9_advance_80 (by decide) ?_
  refine jj_put C jk_10 5 (by decide) jw_21 rfl 0 rfl rfl rfl rfl rfl dX9_advance_81 ?_
  refine jj_goto (tgt := 269) C dX9_advance_84 (by decide) ?_
  exact jj_vret C ⟨rfl, rfl⟩ dX9_advance_269 (jj_le rfl) (jj_le rfl)


set_option maxHeartbeats 4000000 in
set_option maxRecDepth 100000 in
theorem ct_X9_isWord_1 {l : Launch} (hl : l.stackTraces = false) (D : va_G) (cA : Nat → ClassId) (ak : (Nat → Nat) × (Nat → Nat)) (h0 h1 : Nat) : jj_M l D cA ak yX9_isWord (.code yX9_isWord cX9_isWord 3 (some .boolean)) 0 0 0 0 [(h0, .inr (10, [.ref h1, .int 0, .int 0, .int 0, .int 0, .int 0, .int (-1)]))] [.ref h0, .ref (ak.1 0)] (fun (w : va_W) (r : Option Value) => (w = [(h0, .inr (10, [.ref h1, .int 0, .int 0, .int 0, .int 0, .int 0, .int (-1)]))] ∧ r = some (.int 0))) jj_noX := by
  refine jj_start hl (by decide) jw_659 (jj_le rfl) ?_
  intro p e s m args below meth c A hargs hA C hex hmn
  refine jj_aload_n C dX9_isWord_0 rfl ?_
  refine jj_get C jk_10 5 (by decide) jw_21 0 rfl rfl dX9_isWord_1 ?_
  refine jj_iconst (v := 1) C dX9_isWord_4 (by decide) ?_
  refine jj_icmp_neT (tgt := 24) C dX9_isWord_5 (by decide) (by decide) ?_
  refine jj_iconst (v := 0) C dX9_isWord_24 (by decide) ?_
  exact jj_zret C rfl ⟨rfl, rfl⟩ dX9_isWord_25 (jj_le rfl) (jj_le rfl)


set_option maxHeartbeats 4000000 in
set_option maxRecDepth 100000 in
theorem ct_X3_accept_1 {l : Launch} (hl : l.stackTraces = false) (D : va_G) (cA : Nat → ClassId) (ak : (Nat → Nat) × (Nat → Nat)) (h0 h1 h2 : Nat) : jj_M l D cA ak yX3_accept (.code yX3_accept cX3_accept 3 (some .boolean)) 0 0 0 0 [(h0, .inr (4, [.ref h1, .ref h2, .int 0]))] [.ref h0, .int 0, .int 1] (fun (w : va_W) (r : Option Value) => (w = [(h0, .inr (4, [.ref h1, .ref h2, .int 1]))] ∧ r = some (.int 0))) jj_noX := by
  refine jj_start hl (by decide) jw_664 (jj_le rfl) ?_
  intro p e s m args below meth c A hargs hA C hex hmn
  refine jj_iload_n C dX3_accept_0 rfl ?_
  refine jj_if_neF (tgt := 9) C dX3_accept_1 (by decide) (by decide) ?_
  refine jj_aload_n C dX3_accept_4 rfl ?_
  refine jj_iload_n C dX3_accept_5 rfl ?_
  refine jj_put C jk_4 2 (by decide) jw_642 rfl 0 rfl rfl rfl rfl rfl dX3_accept_6 ?_
  refine jj_iload_n C dX3_accept_9 rfl ?_
  exact jj_zret C rfl ⟨rfl, rfl⟩ dX3_accept_10 (jj_le rfl) (jj_le rfl)


set_option maxHeartbeats 4000000 in
set_option maxRecDepth 100000 in
theorem ct_X3_readWord_1 {l : Launch} (hl : l.stackTraces = false) (D : va_G) (cA : Nat → ClassId) (ak : (Nat → Nat) × (Nat → Nat)) (h0 h1 h2 h3 : Nat) : jj_M l D cA ak yX3_readWord (.code yX3_readWord cX3_readWord 2 (some .boolean)) 1 22 0 0 [(h0, .inr (4, [.ref h1, .ref h2, .int 0])), (h1, .inr (10, [.ref h3, .int 0, .int 0, .int 0, .int 0, .int 0, .int (-1)]))] [.ref h0, .ref (ak.1 0)] (fun (w : va_W) (r : Option Value) => (w = [(h1, .inr (10, [.ref h3, .int 0, .int 0, .int 0, .int 0, .int 0, .int (-1)])), (h0, .inr (4, [.ref h1, .ref h2, .int 1]))] ∧ r = some (.int 0))) jj_noX := by
  refine jj_start hl (by decide) jw_669 (jj_le rfl) ?_
  intro p e s m args below meth c A hargs hA C hex hmn
  refine jj_aload_n C dX3_readWord_0 rfl ?_
  refine jj_get C jk_4 0 (by decide) jw_643 0 rfl rfl dX3_readWord_1 ?_
  refine jq_callV (rest := []) C (ct_X9_advance_1 hl D cA ak h1 h3) [1] [0] rfl rfl (by decide) (by decide) (by decide) 0 rfl rfl rfl jw_655 jw_656 jw_657 jw_13 jw_654 jn_X9_advance rfl (jj_le rfl) (jj_le rfl) (jj_le rfl) (jj_le rfl) (jj_le rfl) dX3_readWord_4 rfl (fun _ _ hX => hX.elim) (fun w1 r O_2 => ?_)
  obtain ⟨rfl, rfl⟩ := O_2
  refine jj_apd rfl ?_
  refine jj_aload_n C dX3_readWord_7 rfl ?_
  refine jj_aload_n C dX3_readWord_8 rfl ?_
  refine jj_get C jk_4 0 (by decide) jw_643 0 rfl rfl dX3_readWord_9 ?_
  refine jj_aload_n C dX3_readWord_12 rfl ?_
  refine jq_callV (rest := [.ref h0]) C (ct_X9_isWord_1 hl D cA ak h1 h3) [1] [0] rfl rfl (by decide) (by decide) (by decide) 0 rfl rfl rfl jw_660 jw_661 jw_662 jw_13 jw_659 jn_X9_isWord rfl (jj_le rfl) (jj_le rfl) (jj_le rfl) (jj_le rfl) (jj_le rfl) dX3_readWord_13 rfl (fun _ _ hX => hX.elim) (fun w1 r O_4 => ?_)
  obtain ⟨rfl, rfl⟩ := O_4
  refine jj_apd rfl ?_
  refine jj_iconst (v := 1) C dX3_readWord_16 (by decide) ?_
  refine jq_callV (rest := []) C (ct_X3_accept_1 hl D cA ak h0 h1 h2) [0] [1] rfl rfl (by decide) (by decide) (by decide) 0 rfl rfl rfl jw_665 jw_666 jw_667 jw_640 jw_664 jn_X3_accept rfl (jj_le rfl) (jj_le rfl) (jj_le rfl) (jj_le rfl) (jj_le rfl) dX3_readWord_17 rfl (fun _ _ hX => hX.elim) (fun w1 r O_6 => ?_)
  obtain ⟨rfl, rfl⟩ := O_6
  refine jj_apd rfl ?_
  exact jj_zret C rfl ⟨rfl, rfl⟩ dX3_readWord_20 (jj_le rfl) (jj_le rfl)


set_option maxHeartbeats 4000000 in
set_option maxRecDepth 100000 in
theorem ct_X3_readFund_1 {l : Launch} (hl : l.stackTraces = false) (D : va_G) (cA : Nat → ClassId) (ak : (Nat → Nat) × (Nat → Nat)) (h0 h1 h2 h3 : Nat) : jj_M l D cA ak yX3_readFund (.code yX3_readFund cX3_readFund 1 (some .boolean)) 2 43 0 0 [(h0, .inr (4, [.ref h1, .ref h2, .int 0])), (h1, .inr (10, [.ref h3, .int 0, .int 0, .int 0, .int 0, .int 0, .int (-1)]))] [.ref h0] (fun (w : va_W) (r : Option Value) => (w = [(h1, .inr (10, [.ref h3, .int 0, .int 0, .int 0, .int 0, .int 0, .int (-1)])), (h0, .inr (4, [.ref h1, .ref h2, .int 1]))] ∧ r = some (.int 0))) jj_noX := by
  refine jj_start hl (by decide) jw_674 (jj_le rfl) ?_
  intro p e s m args below meth c A hargs hA C hex hmn
  refine jj_aload_n C dX3_readFund_0 rfl ?_
  refine jj_ldcs (k := 0) (tx := "fund") C dX3_readFund_1 (by decide +kernel) ?_
  refine jq_callV (rest := []) C (ct_X3_readWord_1 hl D cA ak h0 h1 h2 h3) [0, 1] [] rfl rfl (by decide) (by decide) (by decide) 0 rfl rfl rfl jw_670 jw_671 jw_672 jw_640 jw_669 jn_X3_readWord rfl (jj_le rfl) (jj_le rfl) (jj_le rfl) (jj_le rfl) (jj_le rfl) dX3_readFund_3 rfl (fun _ _ hX => hX.elim) (fun w1 r O_2 => ?_)
  obtain ⟨rfl, rfl⟩ := O_2
  refine jj_apd rfl ?_
  refine jj_if_eqT (tgt := 27) C dX3_readFund_6 (by decide) (by decide) ?_
  refine jj_iconst (v := 0) C dX3_readFund_27 (by decide) ?_
  exact jj_zret C rfl ⟨rfl, rfl⟩ dX3_readFund_28 (jj_le rfl) (jj_le rfl)


set_option maxHeartbeats 4000000 in
set_option maxRecDepth 100000 in
theorem ct_X3_readAll_1 {l : Launch} (hl : l.stackTraces = false) (D : va_G) (cA : Nat → ClassId) (ak : (Nat → Nat) × (Nat → Nat)) (h0 h1 h2 h3 h4 h5 h6 h7 : Nat) : jj_M l D cA ak yX3_readAll (.code yX3_readAll cX3_readAll 1 (some .boolean)) 3 63 0 0 [(h0, .inr (4, [.ref h1, .ref h2, .int 0])), (h1, .inr (10, [.ref h4, .int 0, .int 0, .int 0, .int 0, .int 0, .int (-1)])), (h2, .inr (2, [.int 1, .int 0, .int 0, .int 0, .int 100, .int 0, .int 0, .int 0, .int 0, .int 0, .ref h3, .ref h5, .ref h6, .ref h7])), (h3, .inl (cA 2, 6, .inr (.inl (fun _ => 0))))] [.ref h0] (fun (w : va_W) (r : Option Value) => (w = [(h2, .inr (2, [.int 1, .int 0, .int 0, .int 0, .int 100, .int 0, .int 0, .int 0, .int 0, .int 0, .ref h3, .ref h5, .ref h6, .ref h7])), (h3, .inl (cA 2, 6, .inr (.inl (vp_updL (vp_updL (vp_updL (vp_updL (vp_updL (vp_updL (fun _ => 0) 0 0) 1 0) 2 0) 3 0) 4 0) 5 0)))), (h1, .inr (10, [.ref h4, .int 0, .int 0, .int 0, .int 0, .int 0, .int (-1)])), (h0, .inr (4, [.ref h1, .ref h2, .int 1]))] ∧ r = some (.int 0))) jj_noX := by
  refine jj_start hl (by decide) jw_679 (jj_le rfl) ?_
  intro p e s m args below meth c A hargs hA C hex hmn
  refine jj_aload_n C dX3_readAll_0 rfl ?_
  refine jj_get C jk_4 1 (by decide) jw_644 0 rfl rfl dX3_readAll_1 ?_
  refine jq_callV (rest := []) C (ct_X0_empty_1 hl D cA ak h2 h3 h5 h6 h7) [2, 3] [0, 1] rfl rfl (by decide) (by decide) (by decide) 0 rfl rfl rfl jw_650 jw_651 jw_652 jw_57 jw_649 jn_X0_empty rfl (jj_le rfl) (jj_le rfl) (jj_le rfl) (jj_le rfl) (jj_le rfl) dX3_readAll_4 rfl (fun _ _ hX => hX.elim) (fun w1 r O_2 => ?_)
  obtain ⟨rfl, rfl⟩ := O_2
  refine jj_apd rfl ?_
  refine jj_aload_n C dX3_readAll_7 rfl ?_
  refine jq_callV (rest := []) C (ct_X3_readFund_1 hl D cA ak h0 h1 h2 h4) [0, 1] [2, 3] rfl rfl (by decide) (by decide) (by decide) 0 rfl rfl rfl jw_675 jw_676 jw_677 jw_640 jw_674 jn_X3_readFund rfl (jj_le rfl) (jj_le rfl) (jj_le rfl) (jj_le rfl) (jj_le rfl) dX3_readAll_8 rfl (fun _ _ hX => hX.elim) (fun w1 r O_4 => ?_)
  obtain ⟨rfl, rfl⟩ := O_4
  refine jj_apd rfl ?_
  refine jj_if_eqT (tgt := 32) C dX3_readAll_11 (by decide) (by decide) ?_
  refine jj_iconst (v := 0) C dX3_readAll_32 (by decide) ?_
  exact jj_zret C rfl ⟨rfl, rfl⟩ dX3_readAll_33 (jj_le rfl) (jj_le rfl)


set_option maxHeartbeats 4000000 in
set_option maxRecDepth 100000 in
theorem ct_X10_parseFund_1 {l : Launch} (hl : l.stackTraces = false) (D : va_G) (cA : Nat → ClassId) (ak : (Nat → Nat) × (Nat → Nat)) (h0 h1 h2 h3 h4 h5 h6 h7 h8 h9 h10 h11 : Nat) : jj_M l D cA ak yX10_parseFund (.code yX10_parseFund cX10_parseFund 3 (some .int)) 4 83 1 3 [(h0, .inr (11, [.ref h1, .int 0, .int (-1), .ref h4, .ref h2, .ref h5, .ref h6, .int 0, .int 0, .ref h7])), (h1, .inr (10, [.ref h8, .int 0, .int 0, .int 0, .int 0, .int 0, .int (-1)])), (h2, .inr (2, [.int 1, .int 0, .int 0, .int 0, .int 100, .int 0, .int 0, .int 0, .int 0, .int 0, .ref h3, .ref h9, .ref h10, .ref h11])), (h3, .inl (cA 2, 6, .inr (.inl (fun _ => 0))))] [.ref h0] (fun (w : va_W) (r : Option Value) => (r = some (.int (-1)))) jj_noX := by
  refine jj_start hl (by decide) jw_686 (jj_le rfl) ?_
  intro p e s m args below meth c A hargs hA C hex hmn
  refine jj_aload_n C dX10_parseFund_0 rfl ?_
  refine jj_get C jk_11 0 (by decide) jw_26 0 rfl rfl dX10_parseFund_1 ?_
  refine jq_callV (rest := []) C (ct_X9_takeBuffer_1 hl D cA ak h1 h8) [1] [0, 2, 3] rfl rfl (by decide) (by decide) (by decide) 0 rfl rfl rfl jw_630 jw_631 jw_632 jw_13 jw_629 jn_X9_takeBuffer rfl (jj_le rfl) (jj_le rfl) (jj_le rfl) (jj_le rfl) (jj_le rfl) dX10_parseFund_4 rfl (fun _ _ hX => hX.elim) (fun w1 r O_2 => ?_)
  obtain ⟨rfl, rfl⟩ := O_2
  refine jj_apd rfl ?_
  refine jj_new (wt := []) C jk_4 jw_638 jw_639 jw_640 jd_4 (jj_le rfl) (jj_le rfl) dX10_parseFund_7 (fun q_3 => ?_)
  refine jj_apd rfl ?_
  refine jj_dup C dX10_parseFund_10 rfl ?_
  refine jj_aload_n C dX10_parseFund_11 rfl ?_
  refine jj_get C jk_11 0 (by decide) jw_26 0 rfl rfl dX10_parseFund_12 ?_
  refine jj_aload_n C dX10_parseFund_15 rfl ?_
  refine jj_get C jk_11 4 (by decide) jw_136 0 rfl rfl dX10_parseFund_16 ?_
  refine jq_callI (rest := [.ref q_3]) C (ct_X3_init_1 hl D cA ak q_3 h1 h2) [4] [0, 1, 2, 3] rfl rfl (by decide) (by decide) (by decide) jw_646 jw_647 jw_640 jw_645 rfl jn_X3_init rfl (jj_le rfl) (jj_le rfl) (jj_le rfl) (jj_le rfl) (jj_le rfl) dX10_parseFund_19 rfl (fun w1 r O_5 => ?_)
  obtain ⟨rfl, rfl⟩ := O_5
  refine jj_apd rfl ?_
  refine jj_astore_n C dX10_parseFund_22 (by decide) rfl ?_
  refine jj_aload_n C dX10_parseFund_23 rfl ?_
  refine jq_callV (rest := []) C (ct_X3_readAll_1 hl D cA ak q_3 h1 h2 h3 h8 h9 h10 h11) [4, 3, 1, 2] [0] rfl rfl (by decide) (by decide) (by decide) 0 rfl rfl rfl jw_680 jw_681 jw_682 jw_640 jw_679 jn_X3_readAll rfl (jj_le rfl) (jj_le rfl) (jj_le rfl) (jj_le rfl) (jj_le rfl) dX10_parseFund_24 rfl (fun _ _ hX => hX.elim) (fun w1 r O_7 => ?_)
  obtain ⟨rfl, rfl⟩ := O_7
  refine jj_apd rfl ?_
  refine jj_if_neF (tgt := 51) C dX10_parseFund_27 (by decide) (by decide) ?_
  refine jj_aload_n C dX10_parseFund_30 rfl ?_
  refine jj_aload_n C dX10_parseFund_31 rfl ?_
  refine jj_get C jk_4 2 (by decide) jw_684 4 rfl rfl dX10_parseFund_32 ?_
  refine jj_put C jk_11 1 (by decide) jw_38 rfl 0 rfl rfl rfl rfl rfl dX10_parseFund_35 ?_
  refine jj_aload_n C dX10_parseFund_38 rfl ?_
  refine jj_aload_n C dX10_parseFund_39 rfl ?_
  refine jj_get C jk_11 0 (by decide) jw_26 0 rfl rfl dX10_parseFund_40 ?_
  refine jj_get C jk_10 4 (by decide) jw_685 3 rfl rfl dX10_parseFund_43 ?_
  refine jj_put C jk_11 2 (by decide) jw_39 rfl 0 rfl rfl rfl rfl rfl dX10_parseFund_46 ?_
  refine jj_iconst (v := (-1)) C dX10_parseFund_49 (by decide) ?_
  exact jj_iret C rfl dX10_parseFund_50 (jj_le rfl) (jj_le rfl)


set_option maxHeartbeats 4000000 in
set_option maxRecDepth 100000 in
theorem ct_X11_byteAt_1 {l : Launch} (hl : l.stackTraces = false) (D : va_G) (cA : Nat → ClassId) (ak : (Nat → Nat) × (Nat → Nat)) (h0 h1 h2 h3 h4 h5 h6 h7 h8 h9 h10 h11 h12 : Nat) : jj_M l D cA ak yX11_byteAt (.code yX11_byteAt cX11_byteAt 2 (some .int)) 0 0 0 0 [(h0, .inr (12, [.ref h1, .ref h2, .ref h3, .ref h4, .ref h5, .ref h6, .int 0, .int 0, .long 0, .long 0, .ref h7, .ref h8, .ref h9, .int 0, .int 0, .int 0, .int 0, .int 0, .int (-1), .int 0, .int 0, .ref h10, .ref h11, .ref h12, .int 0]))] [.ref h0, .int 0] (fun (w : va_W) (r : Option Value) => (w = [(h0, .inr (12, [.ref h1, .ref h2, .ref h3, .ref h4, .ref h5, .ref h6, .int 0, .int 0, .long 0, .long 0, .ref h7, .ref h8, .ref h9, .int 0, .int 0, .int 0, .int 0, .int 0, .int (-1), .int 0, .int 0, .ref h10, .ref h11, .ref h12, .int 0]))] ∧ r = some (.int (-1)))) jj_noX := by
  refine jj_start hl (by decide) jw_691 (jj_le rfl) ?_
  intro p e s m args below meth c A hargs hA C hex hmn
  refine jj_iload_n C dX11_byteAt_0 rfl ?_
  refine jj_aload_n C dX11_byteAt_1 rfl ?_
  refine jj_get C jk_12 16 (by decide) jw_687 0 rfl rfl dX11_byteAt_2 ?_
  refine jj_icmp_geT (tgt := 21) C dX11_byteAt_5 (by decide) (by decide) ?_
  refine jj_iconst (v := (-1)) C dX11_byteAt_21 (by decide) ?_
  exact jj_iret C ⟨rfl, rfl⟩ dX11_byteAt_22 (jj_le rfl) (jj_le rfl)


set_option maxHeartbeats 4000000 in
set_option maxRecDepth 100000 in
theorem ct_X11_in_10 {l : Launch} (hl : l.stackTraces = false) (D : va_G) (cA : Nat → ClassId) (ak : (Nat → Nat) × (Nat → Nat)) : jj_M l D cA ak yX11_in (.code yX11_in cX11_in 6 (some .boolean)) 0 0 0 0 [] [.long (-1), .long 97, .long 122] (fun (w : va_W) (r : Option Value) => (w = [] ∧ r = some (.int 0))) jj_noX := by
  refine jj_start hl (by decide) jw_246 (jj_le rfl) ?_
  intro p e s m args below meth c A hargs hA C hex hmn
  refine jj_lload_n C dX11_in_0 rfl ?_
  refine jj_lload_n C dX11_in_1 rfl ?_
  refine jj_lcmp_ltT (tgt := 17) C dX11_in_2 dX11_in_3 (by decide) (by decide) ?_
  refine jj_iconst (v := 0) C dX11_in_17 (by decide) ?_
  exact jj_zret C rfl ⟨rfl, rfl⟩ dX11_in_18 (jj_le rfl) (jj_le rfl)


set_option maxHeartbeats 4000000 in
set_option maxRecDepth 100000 in
theorem ct_X11_in_11 {l : Launch} (hl : l.stackTraces = false) (D : va_G) (cA : Nat → ClassId) (ak : (Nat → Nat) × (Nat → Nat)) : jj_M l D cA ak yX11_in (.code yX11_in cX11_in 6 (some .boolean)) 0 0 0 0 [] [.long (-1), .long 48, .long 57] (fun (w : va_W) (r : Option Value) => (w = [] ∧ r = some (.int 0))) jj_noX := by
  refine jj_start hl (by decide) jw_246 (jj_le rfl) ?_
  intro p e s m args below meth c A hargs hA C hex hmn
  refine jj_lload_n C dX11_in_0 rfl ?_
  refine jj_lload_n C dX11_in_1 rfl ?_
  refine jj_lcmp_ltT (tgt := 17) C dX11_in_2 dX11_in_3 (by decide) (by decide) ?_
  refine jj_iconst (v := 0) C dX11_in_17 (by decide) ?_
  exact jj_zret C rfl ⟨rfl, rfl⟩ dX11_in_18 (jj_le rfl) (jj_le rfl)


set_option maxHeartbeats 4000000 in
set_option maxRecDepth 100000 in
theorem ct_X11_next_1 {l : Launch} (hl : l.stackTraces = false) (D : va_G) (cA : Nat → ClassId) (ak : (Nat → Nat) × (Nat → Nat)) (h0 h1 h2 h3 h4 h5 h6 h7 h8 h9 h10 h11 h12 : Nat) : jj_M l D cA ak yX11_next (.code yX11_next cX11_next 1 none) 1 25 0 0 [(h0, .inr (12, [.ref h1, .ref h2, .ref h3, .ref h4, .ref h5, .ref h6, .int 0, .int 0, .long 0, .long 0, .ref h7, .ref h8, .ref h9, .int 0, .int 0, .int 0, .int 0, .int 0, .int (-1), .int 0, .int 0, .ref h10, .ref h11, .ref h12, .int 0]))] [.ref h0] (fun (w : va_W) (r : Option Value) => (w = [(h0, .inr (12, [.ref h1, .ref h2, .ref h3, .ref h4, .ref h5, .ref h6, .int 0, .int 0, .long 0, .long 0, .ref h7, .ref h8, .ref h9, .int 0, .int 0, .int 0, .int 0, .int 0, .int (-1), .int 0, .int 0, .ref h10, .ref h11, .ref h12, .int 0]))] ∧ r = none)) jj_noX := by
  refine jj_start hl (by decide) jw_700 (jj_le rfl) ?_
  intro p e s m args below meth c A hargs hA C hex hmn
  refine jj_aload_n C dX11_next_0 rfl ?_
  refine jj_aload_n C dX11_next_1 rfl ?_
  refine jj_get C jk_12 15 (by decide) jw_688 0 rfl rfl dX11_next_2 ?_
  refine jj_put C jk_12 14 (by decide) jw_690 rfl 0 rfl rfl rfl rfl rfl dX11_next_5 ?_
  refine jj_aload_n C dX11_next_8 rfl ?_
  refine jj_aload_n C dX11_next_9 rfl ?_
  refine jj_get C jk_12 14 (by decide) jw_690 0 rfl rfl dX11_next_10 ?_
  refine jq_callV (rest := []) C (ct_X11_byteAt_1 hl D cA ak h0 h1 h2 h3 h4 h5 h6 h7 h8 h9 h10 h11 h12) [0] [] rfl rfl (by decide) (by decide) (by decide) 0 rfl rfl rfl jw_692 jw_693 jw_694 jw_224 jw_691 jn_X11_byteAt rfl (jj_le rfl) (jj_le rfl) (jj_le rfl) (jj_le rfl) (jj_le rfl) dX11_next_13 rfl (fun _ _ hX => hX.elim) (fun w1 r O_2 => ?_)
  obtain ⟨rfl, rfl⟩ := O_2
  refine jj_apd rfl ?_
  refine jj_bipush (v := 32) C dX11_next_16 (by decide) ?_
  refine jj_icmp_eqF (tgt := 34) C dX11_next_18 (by decide) (by decide) ?_
  refine jj_aload_n C dX11_next_21 rfl ?_
  refine jj_aload_n C dX11_next_22 rfl ?_
  refine jj_get C jk_12 14 (by decide) jw_690 0 rfl rfl dX11_next_23 ?_
  refine jq_callV (rest := []) C (ct_X11_byteAt_1 hl D cA ak h0 h1 h2 h3 h4 h5 h6 h7 h8 h9 h10 h11 h12) [0] [] rfl rfl (by decide) (by decide) (by decide) 0 rfl rfl rfl jw_692 jw_693 jw_694 jw_224 jw_691 jn_X11_byteAt rfl (jj_le rfl) (jj_le rfl) (jj_le rfl) (jj_le rfl) (jj_le rfl) dX11_next_26 rfl (fun _ _ hX => hX.elim) (fun w1 r O_4 => ?_)
  obtain ⟨rfl, rfl⟩ := O_4
  refine jj_apd rfl ?_
  refine jj_bipush (v := 10) C dX11_next_29 (by decide) ?_
  refine jj_icmp_neT (tgt := 47) C dX11_next_31 (by decide) (by decide) ?_
  refine jj_aload_n C dX11_next_47 rfl ?_
  refine jj_aload_n C dX11_next_48 rfl ?_
  refine jj_get C jk_12 14 (by decide) jw_690 0 rfl rfl dX11_next_49 ?_
  refine jj_put C jk_12 15 (by decide) jw_688 rfl 0 rfl rfl rfl rfl rfl dX11_next_52 ?_
  refine jj_aload_n C dX11_next_55 rfl ?_
  refine jj_aload_n C dX11_next_56 rfl ?_
  refine jj_get C jk_12 15 (by decide) jw_688 0 rfl rfl dX11_next_57 ?_
  refine jq_callV (rest := []) C (ct_X11_byteAt_1 hl D cA ak h0 h1 h2 h3 h4 h5 h6 h7 h8 h9 h10 h11 h12) [0] [] rfl rfl (by decide) (by decide) (by decide) 0 rfl rfl rfl jw_692 jw_693 jw_694 jw_224 jw_691 jn_X11_byteAt rfl (jj_le rfl) (jj_le rfl) (jj_le rfl) (jj_le rfl) (jj_le rfl) dX11_next_60 rfl (fun _ _ hX => hX.elim) (fun w1 r O_6 => ?_)
  obtain ⟨rfl, rfl⟩ := O_6
  refine jj_apd rfl ?_
  refine jj_i2l (v := (-1)) C dX11_next_63 (by decide) ?_
  refine jj_ldc2 (v := 97) C dX11_next_64 jw_696 ?_
  refine jj_ldc2 (v := 122) C dX11_next_67 jw_697 ?_
  refine jq_callS (rest := []) C (ct_X11_in_10 hl D cA ak) [] [0] rfl rfl (by decide) (by decide) (by decide) jw_247 jw_248 jw_224 jw_246 jn_X11_in rfl (jj_le rfl) (jj_le rfl) (jj_le rfl) (jj_le rfl) (jj_le rfl) dX11_next_70 rfl (fun _ _ hX => hX.elim) (fun w1 r O_8 => ?_)
  obtain ⟨rfl, rfl⟩ := O_8
  refine jj_apd rfl ?_
  refine jj_if_eqT (tgt := 110) C dX11_next_73 (by decide) (by decide) ?_
  refine jj_aload_n C dX11_next_110 rfl ?_
  refine jj_aload_n C dX11_next_111 rfl ?_
  refine jj_get C jk_12 15 (by decide) jw_688 0 rfl rfl dX11_next_112 ?_
  refine jq_callV (rest := []) C (ct_X11_byteAt_1 hl D cA ak h0 h1 h2 h3 h4 h5 h6 h7 h8 h9 h10 h11 h12) [0] [] rfl rfl (by decide) (by decide) (by decide) 0 rfl rfl rfl jw_692 jw_693 jw_694 jw_224 jw_691 jn_X11_byteAt rfl (jj_le rfl) (jj_le rfl) (jj_le rfl) (jj_le rfl) (jj_le rfl) dX11_next_115 rfl (fun _ _ hX => hX.elim) (fun w1 r O_10 => ?_)
  obtain ⟨rfl, rfl⟩ := O_10
  refine jj_apd rfl ?_
  refine jj_i2l (v := (-1)) C dX11_next_118 (by decide) ?_
  refine jj_ldc2 (v := 48) C dX11_next_119 jw_698 ?_
  refine jj_ldc2 (v := 57) C dX11_next_122 jw_699 ?_
  refine jq_callS (rest := []) C (ct_X11_in_11 hl D cA ak) [] [0] rfl rfl (by decide) (by decide) (by decide) jw_247 jw_248 jw_224 jw_246 jn_X11_in rfl (jj_le rfl) (jj_le rfl) (jj_le rfl) (jj_le rfl) (jj_le rfl) dX11_next_125 rfl (fun _ _ hX => hX.elim) (fun w1 r O_12 => ?_)
  obtain ⟨rfl, rfl⟩ := O_12
  refine jj_apd rfl ?_
  refine jj_if_eqT (tgt := 165) C dX11_next_128 (by decide) (by decide) ?_
  refine jj_aload_n C dX11_next_165 rfl ?_
  refine jj_get C jk_12 15 (by decide) jw_688 0 rfl rfl dX11_next_166 ?_
  refine jj_aload_n C dX11_next_169 rfl ?_
  refine jj_get C jk_12 16 (by decide) jw_687 0 rfl rfl dX11_next_170 ?_
  refine jj_icmp_geT (tgt := 186) C dX11_next_173 (by decide) (by decide) ?_
  exact jj_vret C ⟨rfl, rfl⟩ dX11_next_186 (jj_le rfl) (jj_le rfl)


set_option maxHeartbeats 4000000 in
set_option maxRecDepth 100000 in
theorem ct_X11_begin_1 {l : Launch} (hl : l.stackTraces = false) (D : va_G) (cA : Nat → ClassId) (ak : (Nat → Nat) × (Nat → Nat)) (h0 h1 h2 h3 h4 h5 h6 h7 h8 h9 h10 h11 h12 : Nat) : jj_M l D cA ak yX11_begin (.code yX11_begin cX11_begin 1 none) 2 45 0 0 [(h0, .inr (12, [.ref h1, .ref h2, .ref h3, .ref h4, .ref h5, .ref h6, .int 0, .int 0, .long 0, .long 0, .ref h7, .ref h8, .ref h9, .int 0, .int 0, .int 0, .int 0, .int 0, .int (-1), .int 0, .int 0, .ref h10, .ref h11, .ref h12, .int 0]))] [.ref h0] (fun (w : va_W) (r : Option Value) => (w = [(h0, .inr (12, [.ref h1, .ref h2, .ref h3, .ref h4, .ref h5, .ref h6, .int 0, .int 0, .long 0, .long 0, .ref h7, .ref h8, .ref h9, .int 0, .int 0, .int 0, .int 0, .int 0, .int (-1), .int 0, .int 0, .ref h10, .ref h11, .ref h12, .int 0]))] ∧ r = none)) jj_noX := by
  refine jj_start hl (by decide) jw_705 (jj_le rfl) ?_
  intro p e s m args below meth c A hargs hA C hex hmn
  refine jj_aload_n C dX11_begin_0 rfl ?_
  refine jj_aload_n C dX11_begin_1 rfl ?_
  refine jj_get C jk_12 13 (by decide) jw_235 0 rfl rfl dX11_begin_2 ?_
  refine jj_put C jk_12 16 (by decide) jw_687 rfl 0 rfl rfl rfl rfl rfl dX11_begin_5 ?_
  refine jj_aload_n C dX11_begin_8 rfl ?_
  refine jj_iconst (v := 0) C dX11_begin_9 (by decide) ?_
  refine jj_put C jk_12 13 (by decide) jw_235 rfl 0 rfl rfl rfl rfl rfl dX11_begin_10 ?_
  refine jj_aload_n C dX11_begin_13 rfl ?_
  refine jj_iconst (v := 0) C dX11_begin_14 (by decide) ?_
  refine jj_put C jk_12 15 (by decide) jw_688 rfl 0 rfl rfl rfl rfl rfl dX11_begin_15 ?_
  refine jj_aload_n C dX11_begin_18 rfl ?_
  refine jj_iconst (v := 0) C dX11_begin_19 (by decide) ?_
  refine jj_put C jk_12 17 (by decide) jw_689 rfl 0 rfl rfl rfl rfl rfl dX11_begin_20 ?_
  refine jj_aload_n C dX11_begin_23 rfl ?_
  refine jq_callV (rest := []) C (ct_X11_next_1 hl D cA ak h0 h1 h2 h3 h4 h5 h6 h7 h8 h9 h10 h11 h12) [0] [] rfl rfl (by decide) (by decide) (by decide) 0 rfl rfl rfl jw_701 jw_702 jw_703 jw_224 jw_700 jn_X11_next rfl (jj_le rfl) (jj_le rfl) (jj_le rfl) (jj_le rfl) (jj_le rfl) dX11_begin_24 rfl (fun _ _ hX => hX.elim) (fun w1 r O_2 => ?_)
  obtain ⟨rfl, rfl⟩ := O_2
  refine jj_apd rfl ?_
  exact jj_vret C ⟨rfl, rfl⟩ dX11_begin_27 (jj_le rfl) (jj_le rfl)


set_option maxHeartbeats 4000000 in
set_option maxRecDepth 100000 in
theorem ct_J0_coder_7d493_1 {l : Launch} (hl : l.stackTraces = false) (D : va_G) (cA : Nat → ClassId) (ak : (Nat → Nat) × (Nat → Nat)) : jj_M l D cA ak yJ0_coder_7d493 (.code yJ0_coder_7d493 cJ0_coder_7d493 1 (some .byte)) 0 0 0 0 [] [.ref (ak.1 20)] (fun (w : va_W) (r : Option Value) => (w = [] ∧ r = some (.int 0))) jj_noX := by
  refine jj_start hl (by decide) jw_713 (jj_le rfl) ?_
  intro p e s m args below meth c A hargs hA C hex hmn
  refine jj_gcs C jw_711 dJ0_coder_7d493_0 ?_
  refine jj_if_eqF (tgt := 13) C dJ0_coder_7d493_3 (by decide) (by decide) ?_
  refine jj_aload_n C dJ0_coder_7d493_6 rfl ?_
  refine jj_scod (k := 20) C (by decide) jw_712 dJ0_coder_7d493_7 ?_
  refine jj_goto (tgt := 14) C dJ0_coder_7d493_10 (by decide) ?_
  exact jj_zret C rfl ⟨rfl, rfl⟩ dJ0_coder_7d493_14 (jj_le rfl) (jj_le rfl)


set_option maxHeartbeats 4000000 in
set_option maxRecDepth 100000 in
theorem ct_J0_length_8abf5_1 {l : Launch} (hl : l.stackTraces = false) (D : va_G) (cA : Nat → ClassId) (ak : (Nat → Nat) × (Nat → Nat)) : jj_M l D cA ak yJ0_length_8abf5 (.code yJ0_length_8abf5 cJ0_length_8abf5 1 (some .int)) 1 20 0 0 [] [.ref (ak.1 20)] (fun (w : va_W) (r : Option Value) => (w = [] ∧ r = some (.int 4))) jj_noX := by
  refine jj_start hl (by decide) jw_719 (jj_le rfl) ?_
  intro p e s m args below meth c A hargs hA C hex hmn
  refine jj_aload_n C dJ0_length_8abf5_0 rfl ?_
  refine jj_sval (k := 20) C (by decide) jw_710 dJ0_length_8abf5_1 ?_
  refine jj_slen (k := 20) (v := 4) C (by decide) (by decide) dJ0_length_8abf5_4 ?_
  refine jj_aload_n C dJ0_length_8abf5_5 rfl ?_
  refine jq_callVs (rest := [.int 4]) C (ct_J0_coder_7d493_1 hl D cA ak) [] [] rfl rfl (by decide) (by decide) (by decide) 20 (by decide) rfl jw_714 jw_716 jw_717 jw_715 jw_713 jn_J0_coder_7d493 rfl (jj_le rfl) (jj_le rfl) (jj_le rfl) (jj_le rfl) (jj_le rfl) dJ0_length_8abf5_6 rfl (fun _ _ hX => hX.elim) (fun w1 r O_2 => ?_)
  obtain ⟨rfl, rfl⟩ := O_2
  refine jj_apd rfl ?_
  refine jj_ishr (v := 4) C dJ0_length_8abf5_9 (by decide) ?_
  exact jj_iret C ⟨rfl, rfl⟩ dJ0_length_8abf5_10 (jj_le rfl) (jj_le rfl)


set_option maxHeartbeats 4000000 in
set_option maxRecDepth 100000 in
theorem ct_X11_isWord_1 {l : Launch} (hl : l.stackTraces = false) (D : va_G) (cA : Nat → ClassId) (ak : (Nat → Nat) × (Nat → Nat)) (h0 h1 h2 h3 h4 h5 h6 h7 h8 h9 h10 h11 h12 : Nat) : jj_M l D cA ak yX11_isWord (.code yX11_isWord cX11_isWord 4 (some .boolean)) 2 40 0 0 [(h0, .inr (12, [.ref h1, .ref h2, .ref h3, .ref h4, .ref h5, .ref h6, .int 0, .int 0, .long 0, .long 0, .ref h7, .ref h8, .ref h9, .int 0, .int 0, .int 0, .int 0, .int 0, .int (-1), .int 0, .int 0, .ref h10, .ref h11, .ref h12, .int 0]))] [.ref h0, .ref (ak.1 20)] (fun (w : va_W) (r : Option Value) => (w = [(h0, .inr (12, [.ref h1, .ref h2, .ref h3, .ref h4, .ref h5, .ref h6, .int 0, .int 0, .long 0, .long 0, .ref h7, .ref h8, .ref h9, .int 0, .int 0, .int 0, .int 0, .int 0, .int (-1), .int 0, .int 0, .ref h10, .ref h11, .ref h12, .int 0]))] ∧ r = some (.int 0))) jj_noX := by
  refine jj_start hl (by decide) jw_724 (jj_le rfl) ?_
  intro p e s m args below meth c A hargs hA C hex hmn
  refine jj_aload_n C dX11_isWord_0 rfl ?_
  refine jj_get C jk_12 15 (by decide) jw_688 0 rfl rfl dX11_isWord_1 ?_
  refine jj_aload_n C dX11_isWord_4 rfl ?_
  refine jj_get C jk_12 14 (by decide) jw_690 0 rfl rfl dX11_isWord_5 ?_
  refine jj_isub (v := 0) C dX11_isWord_8 (by decide) ?_
  refine jj_aload_n C dX11_isWord_9 rfl ?_
  refine jq_callVs (rest := [.int 0]) C (ct_J0_length_8abf5_1 hl D cA ak) [] [0] rfl rfl (by decide) (by decide) (by decide) 20 (by decide) rfl jw_720 jw_721 jw_722 jw_715 jw_719 jn_J0_length_8abf5 rfl (jj_le rfl) (jj_le rfl) (jj_le rfl) (jj_le rfl) (jj_le rfl) dX11_isWord_10 rfl (fun _ _ hX => hX.elim) (fun w1 r O_2 => ?_)
  obtain ⟨rfl, rfl⟩ := O_2
  refine jj_apd rfl ?_
  refine jj_icmp_neT (tgt := 20) C dX11_isWord_13 (by decide) (by decide) ?_
  refine jj_iconst (v := 0) C dX11_isWord_20 (by decide) ?_
  refine jj_istore_n C dX11_isWord_21 (by decide) rfl ?_
  refine jj_iconst (v := 0) C dX11_isWord_22 (by decide) ?_
  refine jj_istore_n C dX11_isWord_23 (by decide) rfl ?_
  refine jj_iload_n C dX11_isWord_24 rfl ?_
  refine jj_aload_n C dX11_isWord_25 rfl ?_
  refine jq_callVs (rest := [.int 0]) C (ct_J0_length_8abf5_1 hl D cA ak) [] [0] rfl rfl (by decide) (by decide) (by decide) 20 (by decide) rfl jw_720 jw_721 jw_722 jw_715 jw_719 jn_J0_length_8abf5 rfl (jj_le rfl) (jj_le rfl) (jj_le rfl) (jj_le rfl) (jj_le rfl) dX11_isWord_26 rfl (fun _ _ hX => hX.elim) (fun w1 r O_4 => ?_)
  obtain ⟨rfl, rfl⟩ := O_4
  refine jj_apd rfl ?_
  refine jj_icmp_geF (tgt := 66) C dX11_isWord_29 (by decide) (by decide) ?_
  refine jj_iload_n C dX11_isWord_32 rfl ?_
  refine jj_if_eqT (tgt := 66) C dX11_isWord_33 (by decide) (by decide) ?_
  refine jj_iload_n C dX11_isWord_66 rfl ?_
  exact jj_zret C rfl ⟨rfl, rfl⟩ dX11_isWord_67 (jj_le rfl) (jj_le rfl)


set_option maxHeartbeats 4000000 in
set_option maxRecDepth 100000 in
theorem ct_X11_wrong_1 {l : Launch} (hl : l.stackTraces = false) (D : va_G) (cA : Nat → ClassId) (ak : (Nat → Nat) × (Nat → Nat)) (h0 h1 h2 h3 h4 h5 h6 h7 h8 h9 h10 h11 h12 : Nat) : jj_M l D cA ak yX11_wrong (.code yX11_wrong cX11_wrong 2 none) 0 0 0 0 [(h0, .inr (12, [.ref h1, .ref h2, .ref h3, .ref h4, .ref h5, .ref h6, .int 0, .int 0, .long 0, .long 0, .ref h7, .ref h8, .ref h9, .int 0, .int 0, .int 0, .int 0, .int 0, .int (-1), .int 0, .int 0, .ref h10, .ref h11, .ref h12, .int 0]))] [.ref h0, .int 1] (fun (w : va_W) (r : Option Value) => (w = [(h0, .inr (12, [.ref h1, .ref h2, .ref h3, .ref h4, .ref h5, .ref h6, .int 0, .int 0, .long 0, .long 0, .ref h7, .ref h8, .ref h9, .int 0, .int 0, .int 0, .int 0, .int 1, .int 0, .int 0, .int 0, .ref h10, .ref h11, .ref h12, .int 0]))] ∧ r = none)) jj_noX := by
  refine jj_start hl (by decide) jw_729 (jj_le rfl) ?_
  intro p e s m args below meth c A hargs hA C hex hmn
  refine jj_aload_n C dX11_wrong_0 rfl ?_
  refine jj_get C jk_12 17 (by decide) jw_689 0 rfl rfl dX11_wrong_1 ?_
  refine jj_if_leT (tgt := 8) C dX11_wrong_4 (by decide) (by decide) ?_
  refine jj_aload_n C dX11_wrong_8 rfl ?_
  refine jj_iload_n C dX11_wrong_9 rfl ?_
  refine jj_put C jk_12 17 (by decide) jw_689 rfl 0 rfl rfl rfl rfl rfl dX11_wrong_10 ?_
  refine jj_aload_n C dX11_wrong_13 rfl ?_
  refine jj_aload_n C dX11_wrong_14 rfl ?_
  refine jj_get C jk_12 14 (by decide) jw_690 0 rfl rfl dX11_wrong_15 ?_
  refine jj_put C jk_12 18 (by decide) jw_217 rfl 0 rfl rfl rfl rfl rfl dX11_wrong_18 ?_
  exact jj_vret C ⟨rfl, rfl⟩ dX11_wrong_21 (jj_le rfl) (jj_le rfl)


set_option maxHeartbeats 4000000 in
set_option maxRecDepth 100000 in
theorem ct_X11_pass_1 {l : Launch} (hl : l.stackTraces = false) (D : va_G) (cA : Nat → ClassId) (ak : (Nat → Nat) × (Nat → Nat)) (h0 h1 h2 h3 h4 h5 h6 h7 h8 h9 h10 h11 h12 : Nat) : jj_M l D cA ak yX11_pass (.code yX11_pass cX11_pass 1 none) 0 0 0 0 [(h0, .inr (12, [.ref h1, .ref h2, .ref h3, .ref h4, .ref h5, .ref h6, .int 0, .int 0, .long 0, .long 0, .ref h7, .ref h8, .ref h9, .int 0, .int 0, .int 0, .int 0, .int 1, .int 0, .int 0, .int 0, .ref h10, .ref h11, .ref h12, .int 0]))] [.ref h0] (fun (w : va_W) (r : Option Value) => (w = [(h0, .inr (12, [.ref h1, .ref h2, .ref h3, .ref h4, .ref h5, .ref h6, .int 0, .int 0, .long 0, .long 0, .ref h7, .ref h8, .ref h9, .int 0, .int 0, .int 0, .int 0, .int 1, .int 0, .int 0, .int 0, .ref h10, .ref h11, .ref h12, .int 0]))] ∧ r = none)) jj_noX := by
  refine jj_start hl (by decide) jw_734 (jj_le rfl) ?_
  intro p e s m args below meth c A hargs hA C hex hmn
  refine jj_aload_n C dX11_pass_0 rfl ?_
  refine jj_get C jk_12 17 (by decide) jw_689 0 rfl rfl dX11_pass_1 ?_
  refine jj_if_neT (tgt := 11) C dX11_pass_4 (by decide) (by decide) ?_
  exact jj_vret C ⟨rfl, rfl⟩ dX11_pass_11 (jj_le rfl) (jj_le rfl)


set_option maxHeartbeats 4000000 in
set_option maxRecDepth 100000 in
theorem ct_X11_must_1 {l : Launch} (hl : l.stackTraces = false) (D : va_G) (cA : Nat → ClassId) (ak : (Nat → Nat) × (Nat → Nat)) (h0 h1 h2 h3 h4 h5 h6 h7 h8 h9 h10 h11 h12 : Nat) : jj_M l D cA ak yX11_must (.code yX11_must cX11_must 2 none) 3 63 0 0 [(h0, .inr (12, [.ref h1, .ref h2, .ref h3, .ref h4, .ref h5, .ref h6, .int 0, .int 0, .long 0, .long 0, .ref h7, .ref h8, .ref h9, .int 0, .int 0, .int 0, .int 0, .int 0, .int (-1), .int 0, .int 0, .ref h10, .ref h11, .ref h12, .int 0]))] [.ref h0, .ref (ak.1 20)] (fun (w : va_W) (r : Option Value) => (w = [(h0, .inr (12, [.ref h1, .ref h2, .ref h3, .ref h4, .ref h5, .ref h6, .int 0, .int 0, .long 0, .long 0, .ref h7, .ref h8, .ref h9, .int 0, .int 0, .int 0, .int 0, .int 1, .int 0, .int 0, .int 0, .ref h10, .ref h11, .ref h12, .int 0]))] ∧ r = none)) jj_noX := by
  refine jj_start hl (by decide) jw_739 (jj_le rfl) ?_
  intro p e s m args below meth c A hargs hA C hex hmn
  refine jj_aload_n C dX11_must_0 rfl ?_
  refine jj_aload_n C dX11_must_1 rfl ?_
  refine jq_callV (rest := []) C (ct_X11_isWord_1 hl D cA ak h0 h1 h2 h3 h4 h5 h6 h7 h8 h9 h10 h11 h12) [0] [] rfl rfl (by decide) (by decide) (by decide) 0 rfl rfl rfl jw_725 jw_726 jw_727 jw_224 jw_724 jn_X11_isWord rfl (jj_le rfl) (jj_le rfl) (jj_le rfl) (jj_le rfl) (jj_le rfl) dX11_must_2 rfl (fun _ _ hX => hX.elim) (fun w1 r O_2 => ?_)
  obtain ⟨rfl, rfl⟩ := O_2
  refine jj_apd rfl ?_
  refine jj_if_neF (tgt := 13) C dX11_must_5 (by decide) (by decide) ?_
  refine jj_aload_n C dX11_must_8 rfl ?_
  refine jj_iconst (v := 1) C dX11_must_9 (by decide) ?_
  refine jq_callV (rest := []) C (ct_X11_wrong_1 hl D cA ak h0 h1 h2 h3 h4 h5 h6 h7 h8 h9 h10 h11 h12) [0] [] rfl rfl (by decide) (by decide) (by decide) 0 rfl rfl rfl jw_730 jw_731 jw_732 jw_224 jw_729 jn_X11_wrong rfl (jj_le rfl) (jj_le rfl) (jj_le rfl) (jj_le rfl) (jj_le rfl) dX11_must_10 rfl (fun _ _ hX => hX.elim) (fun w1 r O_4 => ?_)
  obtain ⟨rfl, rfl⟩ := O_4
  refine jj_apd rfl ?_
  refine jj_aload_n C dX11_must_13 rfl ?_
  refine jq_callV (rest := []) C (ct_X11_pass_1 hl D cA ak h0 h1 h2 h3 h4 h5 h6 h7 h8 h9 h10 h11 h12) [0] [] rfl rfl (by decide) (by decide) (by decide) 0 rfl rfl rfl jw_735 jw_736 jw_737 jw_224 jw_734 jn_X11_pass rfl (jj_le rfl) (jj_le rfl) (jj_le rfl) (jj_le rfl) (jj_le rfl) dX11_must_14 rfl (fun _ _ hX => hX.elim) (fun w1 r O_6 => ?_)
  obtain ⟨rfl, rfl⟩ := O_6
  refine jj_apd rfl ?_
  exact jj_vret C ⟨rfl, rfl⟩ dX11_must_17 (jj_le rfl) (jj_le rfl)


set_option maxHeartbeats 4000000 in
set_option maxRecDepth 100000 in
theorem ct_J0_coder_7d493_2 {l : Launch} (hl : l.stackTraces = false) (D : va_G) (cA : Nat → ClassId) (ak : (Nat → Nat) × (Nat → Nat)) : jj_M l D cA ak yJ0_coder_7d493 (.code yJ0_coder_7d493 cJ0_coder_7d493 1 (some .byte)) 0 0 0 0 [] [.ref (ak.1 21)] (fun (w : va_W) (r : Option Value) => (w = [] ∧ r = some (.int 0))) jj_noX := by
  refine jj_start hl (by decide) jw_713 (jj_le rfl) ?_
  intro p e s m args below meth c A hargs hA C hex hmn
  refine jj_gcs C jw_711 dJ0_coder_7d493_0 ?_
  refine jj_if_eqF (tgt := 13) C dJ0_coder_7d493_3 (by decide) (by decide) ?_
  refine jj_aload_n C dJ0_coder_7d493_6 rfl ?_
  refine jj_scod (k := 21) C (by decide) jw_712 dJ0_coder_7d493_7 ?_
  refine jj_goto (tgt := 14) C dJ0_coder_7d493_10 (by decide) ?_
  exact jj_zret C rfl ⟨rfl, rfl⟩ dJ0_coder_7d493_14 (jj_le rfl) (jj_le rfl)


set_option maxHeartbeats 4000000 in
set_option maxRecDepth 100000 in
theorem ct_J0_length_8abf5_2 {l : Launch} (hl : l.stackTraces = false) (D : va_G) (cA : Nat → ClassId) (ak : (Nat → Nat) × (Nat → Nat)) : jj_M l D cA ak yJ0_length_8abf5 (.code yJ0_length_8abf5 cJ0_length_8abf5 1 (some .int)) 1 20 0 0 [] [.ref (ak.1 21)] (fun (w : va_W) (r : Option Value) => (w = [] ∧ r = some (.int 5))) jj_noX := by
  refine jj_start hl (by decide) jw_719 (jj_le rfl) ?_
  intro p e s m args below meth c A hargs hA C hex hmn
  refine jj_aload_n C dJ0_length_8abf5_0 rfl ?_
  refine jj_sval (k := 21) C (by decide) jw_710 dJ0_length_8abf5_1 ?_
  refine jj_slen (k := 21) (v := 5) C (by decide) (by decide) dJ0_length_8abf5_4 ?_
  refine jj_aload_n C dJ0_length_8abf5_5 rfl ?_
  refine jq_callVs (rest := [.int 5]) C (ct_J0_coder_7d493_2 hl D cA ak) [] [] rfl rfl (by decide) (by decide) (by decide) 21 (by decide) rfl jw_714 jw_716 jw_717 jw_715 jw_713 jn_J0_coder_7d493 rfl (jj_le rfl) (jj_le rfl) (jj_le rfl) (jj_le rfl) (jj_le rfl) dJ0_length_8abf5_6 rfl (fun _ _ hX => hX.elim) (fun w1 r O_2 => ?_)
  obtain ⟨rfl, rfl⟩ := O_2
  refine jj_apd rfl ?_
  refine jj_ishr (v := 5) C dJ0_length_8abf5_9 (by decide) ?_
  exact jj_iret C ⟨rfl, rfl⟩ dJ0_length_8abf5_10 (jj_le rfl) (jj_le rfl)


set_option maxHeartbeats 4000000 in
set_option maxRecDepth 100000 in
theorem ct_X11_isWord_2 {l : Launch} (hl : l.stackTraces = false) (D : va_G) (cA : Nat → ClassId) (ak : (Nat → Nat) × (Nat → Nat)) (h0 h1 h2 h3 h4 h5 h6 h7 h8 h9 h10 h11 h12 : Nat) : jj_M l D cA ak yX11_isWord (.code yX11_isWord cX11_isWord 4 (some .boolean)) 2 40 0 0 [(h0, .inr (12, [.ref h1, .ref h2, .ref h3, .ref h4, .ref h5, .ref h6, .int 0, .int 0, .long 0, .long 0, .ref h7, .ref h8, .ref h9, .int 0, .int 0, .int 0, .int 0, .int 1, .int 0, .int 0, .int 0, .ref h10, .ref h11, .ref h12, .int 0]))] [.ref h0, .ref (ak.1 21)] (fun (w : va_W) (r : Option Value) => (w = [(h0, .inr (12, [.ref h1, .ref h2, .ref h3, .ref h4, .ref h5, .ref h6, .int 0, .int 0, .long 0, .long 0, .ref h7, .ref h8, .ref h9, .int 0, .int 0, .int 0, .int 0, .int 1, .int 0, .int 0, .int 0, .ref h10, .ref h11, .ref h12, .int 0]))] ∧ r = some (.int 0))) jj_noX := by
  refine jj_start hl (by decide) jw_724 (jj_le rfl) ?_
  intro p e s m args below meth c A hargs hA C hex hmn
  refine jj_aload_n C dX11_isWord_0 rfl ?_
  refine jj_get C jk_12 15 (by decide) jw_688 0 rfl rfl dX11_isWord_1 ?_
  refine jj_aload_n C dX11_isWord_4 rfl ?_
  refine jj_get C jk_12 14 (by decide) jw_690 0 rfl rfl dX11_isWord_5 ?_
  refine jj_isub (v := 0) C dX11_isWord_8 (by decide) ?_
  refine jj_aload_n C dX11_isWord_9 rfl ?_
  refine jq_callVs (rest := [.int 0]) C (ct_J0_length_8abf5_2 hl D cA ak) [] [0] rfl rfl (by decide) (by decide) (by decide) 21 (by decide) rfl jw_720 jw_721 jw_722 jw_715 jw_719 jn_J0_length_8abf5 rfl (jj_le rfl) (jj_le rfl) (jj_le rfl) (jj_le rfl) (jj_le rfl) dX11_isWord_10 rfl (fun _ _ hX => hX.elim) (fun w1 r O_2 => ?_)
  obtain ⟨rfl, rfl⟩ := O_2
  refine jj_apd rfl ?_
  refine jj_icmp_neT (tgt := 20) C dX11_isWord_13 (by decide) (by decide) ?_
  refine jj_iconst (v := 0) C dX11_isWord_20 (by decide) ?_
  refine jj_istore_n C dX11_isWord_21 (by decide) rfl ?_
  refine jj_iconst (v := 0) C dX11_isWord_22 (by decide) ?_
  refine jj_istore_n C dX11_isWord_23 (by decide) rfl ?_
  refine jj_iload_n C dX11_isWord_24 rfl ?_
  refine jj_aload_n C dX11_isWord_25 rfl ?_
  refine jq_callVs (rest := [.int 0]) C (ct_J0_length_8abf5_2 hl D cA ak) [] [0] rfl rfl (by decide) (by decide) (by decide) 21 (by decide) rfl jw_720 jw_721 jw_722 jw_715 jw_719 jn_J0_length_8abf5 rfl (jj_le rfl) (jj_le rfl) (jj_le rfl) (jj_le rfl) (jj_le rfl) dX11_isWord_26 rfl (fun _ _ hX => hX.elim) (fun w1 r O_4 => ?_)
  obtain ⟨rfl, rfl⟩ := O_4
  refine jj_apd rfl ?_
  refine jj_icmp_geF (tgt := 66) C dX11_isWord_29 (by decide) (by decide) ?_
  refine jj_iload_n C dX11_isWord_32 rfl ?_
  refine jj_if_eqT (tgt := 66) C dX11_isWord_33 (by decide) (by decide) ?_
  refine jj_iload_n C dX11_isWord_66 rfl ?_
  exact jj_zret C rfl ⟨rfl, rfl⟩ dX11_isWord_67 (jj_le rfl) (jj_le rfl)


set_option maxHeartbeats 4000000 in
set_option maxRecDepth 100000 in
theorem ct_J0_coder_7d493_3 {l : Launch} (hl : l.stackTraces = false) (D : va_G) (cA : Nat → ClassId) (ak : (Nat → Nat) × (Nat → Nat)) : jj_M l D cA ak yJ0_coder_7d493 (.code yJ0_coder_7d493 cJ0_coder_7d493 1 (some .byte)) 0 0 0 0 [] [.ref (ak.1 22)] (fun (w : va_W) (r : Option Value) => (w = [] ∧ r = some (.int 0))) jj_noX := by
  refine jj_start hl (by decide) jw_713 (jj_le rfl) ?_
  intro p e s m args below meth c A hargs hA C hex hmn
  refine jj_gcs C jw_711 dJ0_coder_7d493_0 ?_
  refine jj_if_eqF (tgt := 13) C dJ0_coder_7d493_3 (by decide) (by decide) ?_
  refine jj_aload_n C dJ0_coder_7d493_6 rfl ?_
  refine jj_scod (k := 22) C (by decide) jw_712 dJ0_coder_7d493_7 ?_
  refine jj_goto (tgt := 14) C dJ0_coder_7d493_10 (by decide) ?_
  exact jj_zret C rfl ⟨rfl, rfl⟩ dJ0_coder_7d493_14 (jj_le rfl) (jj_le rfl)


set_option maxHeartbeats 4000000 in
set_option maxRecDepth 100000 in
theorem ct_J0_length_8abf5_3 {l : Launch} (hl : l.stackTraces = false) (D : va_G) (cA : Nat → ClassId) (ak : (Nat → Nat) × (Nat → Nat)) : jj_M l D cA ak yJ0_length_8abf5 (.code yJ0_length_8abf5 cJ0_length_8abf5 1 (some .int)) 1 20 0 0 [] [.ref (ak.1 22)] (fun (w : va_W) (r : Option Value) => (w = [] ∧ r = some (.int 6))) jj_noX := by
  refine jj_start hl (by decide) jw_719 (jj_le rfl) ?_
  intro p e s m args below meth c A hargs hA C hex hmn
  refine jj_aload_n C dJ0_length_8abf5_0 rfl ?_
  refine jj_sval (k := 22) C (by decide) jw_710 dJ0_length_8abf5_1 ?_
  refine jj_slen (k := 22) (v := 6) C (by decide) (by decide) dJ0_length_8abf5_4 ?_
  refine jj_aload_n C dJ0_length_8abf5_5 rfl ?_
  refine jq_callVs (rest := [.int 6]) C (ct_J0_coder_7d493_3 hl D cA ak) [] [] rfl rfl (by decide) (by decide) (by decide) 22 (by decide) rfl jw_714 jw_716 jw_717 jw_715 jw_713 jn_J0_coder_7d493 rfl (jj_le rfl) (jj_le rfl) (jj_le rfl) (jj_le rfl) (jj_le rfl) dJ0_length_8abf5_6 rfl (fun _ _ hX => hX.elim) (fun w1 r O_2 => ?_)
  obtain ⟨rfl, rfl⟩ := O_2
  refine jj_apd rfl ?_
  refine jj_ishr (v := 6) C dJ0_length_8abf5_9 (by decide) ?_
  exact jj_iret C ⟨rfl, rfl⟩ dJ0_length_8abf5_10 (jj_le rfl) (jj_le rfl)


set_option maxHeartbeats 4000000 in
set_option maxRecDepth 100000 in
theorem ct_X11_isWord_3 {l : Launch} (hl : l.stackTraces = false) (D : va_G) (cA : Nat → ClassId) (ak : (Nat → Nat) × (Nat → Nat)) (h0 h1 h2 h3 h4 h5 h6 h7 h8 h9 h10 h11 h12 : Nat) : jj_M l D cA ak yX11_isWord (.code yX11_isWord cX11_isWord 4 (some .boolean)) 2 40 0 0 [(h0, .inr (12, [.ref h1, .ref h2, .ref h3, .ref h4, .ref h5, .ref h6, .int 0, .int 0, .long 0, .long 0, .ref h7, .ref h8, .ref h9, .int 0, .int 0, .int 0, .int 0, .int 1, .int 0, .int 0, .int 0, .ref h10, .ref h11, .ref h12, .int 0]))] [.ref h0, .ref (ak.1 22)] (fun (w : va_W) (r : Option Value) => (w = [(h0, .inr (12, [.ref h1, .ref h2, .ref h3, .ref h4, .ref h5, .ref h6, .int 0, .int 0, .long 0, .long 0, .ref h7, .ref h8, .ref h9, .int 0, .int 0, .int 0, .int 0, .int 1, .int 0, .int 0, .int 0, .ref h10, .ref h11, .ref h12, .int 0]))] ∧ r = some (.int 0))) jj_noX := by
  refine jj_start hl (by decide) jw_724 (jj_le rfl) ?_
  intro p e s m args below meth c A hargs hA C hex hmn
  refine jj_aload_n C dX11_isWord_0 rfl ?_
  refine jj_get C jk_12 15 (by decide) jw_688 0 rfl rfl dX11_isWord_1 ?_
  refine jj_aload_n C dX11_isWord_4 rfl ?_
  refine jj_get C jk_12 14 (by decide) jw_690 0 rfl rfl dX11_isWord_5 ?_
  refine jj_isub (v := 0) C dX11_isWord_8 (by decide) ?_
  refine jj_aload_n C dX11_isWord_9 rfl ?_
  refine jq_callVs (rest := [.int 0]) C (ct_J0_length_8abf5_3 hl D cA ak) [] [0] rfl rfl (by decide) (by decide) (by decide) 22 (by decide) rfl jw_720 jw_721 jw_722 jw_715 jw_719 jn_J0_length_8abf5 rfl (jj_le rfl) (jj_le rfl) (jj_le rfl) (jj_le rfl) (jj_le rfl) dX11_isWord_10 rfl (fun _ _ hX => hX.elim) (fun w1 r O_2 => ?_)
  obtain ⟨rfl, rfl⟩ := O_2
  refine jj_apd rfl ?_
  refine jj_icmp_neT (tgt := 20) C dX11_isWord_13 (by decide) (by decide) ?_
  refine jj_iconst (v := 0) C dX11_isWord_20 (by decide) ?_
  refine jj_istore_n C dX11_isWord_21 (by decide) rfl ?_
  refine jj_iconst (v := 0) C dX11_isWord_22 (by decide) ?_
  refine jj_istore_n C dX11_isWord_23 (by decide) rfl ?_
  refine jj_iload_n C dX11_isWord_24 rfl ?_
  refine jj_aload_n C dX11_isWord_25 rfl ?_
  refine jq_callVs (rest := [.int 0]) C (ct_J0_length_8abf5_3 hl D cA ak) [] [0] rfl rfl (by decide) (by decide) (by decide) 22 (by decide) rfl jw_720 jw_721 jw_722 jw_715 jw_719 jn_J0_length_8abf5 rfl (jj_le rfl) (jj_le rfl) (jj_le rfl) (jj_le rfl) (jj_le rfl) dX11_isWord_26 rfl (fun _ _ hX => hX.elim) (fun w1 r O_4 => ?_)
  obtain ⟨rfl, rfl⟩ := O_4
  refine jj_apd rfl ?_
  refine jj_icmp_geF (tgt := 66) C dX11_isWord_29 (by decide) (by decide) ?_
  refine jj_iload_n C dX11_isWord_32 rfl ?_
  refine jj_if_eqT (tgt := 66) C dX11_isWord_33 (by decide) (by decide) ?_
  refine jj_iload_n C dX11_isWord_66 rfl ?_
  exact jj_zret C rfl ⟨rfl, rfl⟩ dX11_isWord_67 (jj_le rfl) (jj_le rfl)


set_option maxHeartbeats 4000000 in
set_option maxRecDepth 100000 in
theorem ct_X11_wrong_2 {l : Launch} (hl : l.stackTraces = false) (D : va_G) (cA : Nat → ClassId) (ak : (Nat → Nat) × (Nat → Nat)) (h0 h1 h2 h3 h4 h5 h6 h7 h8 h9 h10 h11 h12 : Nat) : jj_M l D cA ak yX11_wrong (.code yX11_wrong cX11_wrong 2 none) 0 0 0 0 [(h0, .inr (12, [.ref h1, .ref h2, .ref h3, .ref h4, .ref h5, .ref h6, .int 0, .int 0, .long 0, .long 0, .ref h7, .ref h8, .ref h9, .int 0, .int 0, .int 0, .int 0, .int 1, .int 0, .int 0, .int 0, .ref h10, .ref h11, .ref h12, .int 0]))] [.ref h0, .int 1] (fun (w : va_W) (r : Option Value) => (w = [(h0, .inr (12, [.ref h1, .ref h2, .ref h3, .ref h4, .ref h5, .ref h6, .int 0, .int 0, .long 0, .long 0, .ref h7, .ref h8, .ref h9, .int 0, .int 0, .int 0, .int 0, .int 1, .int 0, .int 0, .int 0, .ref h10, .ref h11, .ref h12, .int 0]))] ∧ r = none)) jj_noX := by
  refine jj_start hl (by decide) jw_729 (jj_le rfl) ?_
  intro p e s m args below meth c A hargs hA C hex hmn
  refine jj_aload_n C dX11_wrong_0 rfl ?_
  refine jj_get C jk_12 17 (by decide) jw_689 0 rfl rfl dX11_wrong_1 ?_
  refine jj_if_leF (tgt := 8) C dX11_wrong_4 (by decide) (by decide) ?_
  exact jj_vret C ⟨rfl, rfl⟩ dX11_wrong_7 (jj_le rfl) (jj_le rfl)


set_option maxHeartbeats 4000000 in
set_option maxRecDepth 100000 in
theorem ct_X11_number_1 {l : Launch} (hl : l.stackTraces = false) (D : va_G) (cA : Nat → ClassId) (ak : (Nat → Nat) × (Nat → Nat)) (h0 h1 h2 h3 h4 h5 h6 h7 h8 h9 h10 h11 h12 : Nat) : jj_M l D cA ak yX11_number (.code yX11_number cX11_number 7 (some .int)) 0 0 0 0 [(h0, .inr (12, [.ref h1, .ref h2, .ref h3, .ref h4, .ref h5, .ref h6, .int 0, .int 0, .long 0, .long 0, .ref h7, .ref h8, .ref h9, .int 0, .int 0, .int 0, .int 0, .int 1, .int 0, .int 0, .int 0, .ref h10, .ref h11, .ref h12, .int 0]))] [.ref h0, .long 0, .long 9999] (fun (w : va_W) (r : Option Value) => (w = [(h0, .inr (12, [.ref h1, .ref h2, .ref h3, .ref h4, .ref h5, .ref h6, .int 0, .int 0, .long 0, .long 0, .ref h7, .ref h8, .ref h9, .int 0, .int 0, .int 0, .int 0, .int 1, .int 0, .int 0, .int 0, .ref h10, .ref h11, .ref h12, .int 0]))] ∧ r = some (.int 0))) jj_noX := by
  refine jj_start hl (by decide) jw_744 (jj_le rfl) ?_
  intro p e s m args below meth c A hargs hA C hex hmn
  refine jj_aload_n C dX11_number_0 rfl ?_
  refine jj_get C jk_12 17 (by decide) jw_689 0 rfl rfl dX11_number_1 ?_
  refine jj_if_leF (tgt := 9) C dX11_number_4 (by decide) (by decide) ?_
  refine jj_iconst (v := 0) C dX11_number_7 (by decide) ?_
  exact jj_iret C ⟨rfl, rfl⟩ dX11_number_8 (jj_le rfl) (jj_le rfl)


set_option maxHeartbeats 4000000 in
set_option maxRecDepth 100000 in
theorem ct_X11_number_2 {l : Launch} (hl : l.stackTraces = false) (D : va_G) (cA : Nat → ClassId) (ak : (Nat → Nat) × (Nat → Nat)) (h0 h1 h2 h3 h4 h5 h6 h7 h8 h9 h10 h11 h12 : Nat) : jj_M l D cA ak yX11_number (.code yX11_number cX11_number 7 (some .int)) 0 0 0 0 [(h0, .inr (12, [.ref h1, .ref h2, .ref h3, .ref h4, .ref h5, .ref h6, .int 0, .int 0, .long 0, .long 0, .ref h7, .ref h8, .ref h9, .int 0, .int 0, .int 0, .int 0, .int 1, .int 0, .int 0, .int 0, .ref h10, .ref h11, .ref h12, .int 0]))] [.ref h0, .long 0, .long 50] (fun (w : va_W) (r : Option Value) => (w = [(h0, .inr (12, [.ref h1, .ref h2, .ref h3, .ref h4, .ref h5, .ref h6, .int 0, .int 0, .long 0, .long 0, .ref h7, .ref h8, .ref h9, .int 0, .int 0, .int 0, .int 0, .int 1, .int 0, .int 0, .int 0, .ref h10, .ref h11, .ref h12, .int 0]))] ∧ r = some (.int 0))) jj_noX := by
  refine jj_start hl (by decide) jw_744 (jj_le rfl) ?_
  intro p e s m args below meth c A hargs hA C hex hmn
  refine jj_aload_n C dX11_number_0 rfl ?_
  refine jj_get C jk_12 17 (by decide) jw_689 0 rfl rfl dX11_number_1 ?_
  refine jj_if_leF (tgt := 9) C dX11_number_4 (by decide) (by decide) ?_
  refine jj_iconst (v := 0) C dX11_number_7 (by decide) ?_
  exact jj_iret C ⟨rfl, rfl⟩ dX11_number_8 (jj_le rfl) (jj_le rfl)


set_option maxHeartbeats 4000000 in
set_option maxRecDepth 100000 in
theorem ct_X11_number_3 {l : Launch} (hl : l.stackTraces = false) (D : va_G) (cA : Nat → ClassId) (ak : (Nat → Nat) × (Nat → Nat)) (h0 h1 h2 h3 h4 h5 h6 h7 h8 h9 h10 h11 h12 : Nat) : jj_M l D cA ak yX11_number (.code yX11_number cX11_number 7 (some .int)) 0 0 0 0 [(h0, .inr (12, [.ref h1, .ref h2, .ref h3, .ref h4, .ref h5, .ref h6, .int 0, .int 0, .long 0, .long 0, .ref h7, .ref h8, .ref h9, .int 0, .int 0, .int 0, .int 0, .int 1, .int 0, .int 0, .int 0, .ref h10, .ref h11, .ref h12, .int 0]))] [.ref h0, .long 1, .long 100] (fun (w : va_W) (r : Option Value) => (w = [(h0, .inr (12, [.ref h1, .ref h2, .ref h3, .ref h4, .ref h5, .ref h6, .int 0, .int 0, .long 0, .long 0, .ref h7, .ref h8, .ref h9, .int 0, .int 0, .int 0, .int 0, .int 1, .int 0, .int 0, .int 0, .ref h10, .ref h11, .ref h12, .int 0]))] ∧ r = some (.int 0))) jj_noX := by
  refine jj_start hl (by decide) jw_744 (jj_le rfl) ?_
  intro p e s m args below meth c A hargs hA C hex hmn
  refine jj_aload_n C dX11_number_0 rfl ?_
  refine jj_get C jk_12 17 (by decide) jw_689 0 rfl rfl dX11_number_1 ?_
  refine jj_if_leF (tgt := 9) C dX11_number_4 (by decide) (by decide) ?_
  refine jj_iconst (v := 0) C dX11_number_7 (by decide) ?_
  exact jj_iret C ⟨rfl, rfl⟩ dX11_number_8 (jj_le rfl) (jj_le rfl)


set_option maxHeartbeats 4000000 in
set_option maxRecDepth 100000 in
theorem ct_J0_coder_7d493_4 {l : Launch} (hl : l.stackTraces = false) (D : va_G) (cA : Nat → ClassId) (ak : (Nat → Nat) × (Nat → Nat)) : jj_M l D cA ak yJ0_coder_7d493 (.code yJ0_coder_7d493 cJ0_coder_7d493 1 (some .byte)) 0 0 0 0 [] [.ref (ak.1 23)] (fun (w : va_W) (r : Option Value) => (w = [] ∧ r = some (.int 0))) jj_noX := by
  refine jj_start hl (by decide) jw_713 (jj_le rfl) ?_
  intro p e s m args below meth c A hargs hA C hex hmn
  refine jj_gcs C jw_711 dJ0_coder_7d493_0 ?_
  refine jj_if_eqF (tgt := 13) C dJ0_coder_7d493_3 (by decide) (by decide) ?_
  refine jj_aload_n C dJ0_coder_7d493_6 rfl ?_
  refine jj_scod (k := 23) C (by decide) jw_712 dJ0_coder_7d493_7 ?_
  refine jj_goto (tgt := 14) C dJ0_coder_7d493_10 (by decide) ?_
  exact jj_zret C rfl ⟨rfl, rfl⟩ dJ0_coder_7d493_14 (jj_le rfl) (jj_le rfl)


set_option maxHeartbeats 4000000 in
set_option maxRecDepth 100000 in
theorem ct_J0_length_8abf5_4 {l : Launch} (hl : l.stackTraces = false) (D : va_G) (cA : Nat → ClassId) (ak : (Nat → Nat) × (Nat → Nat)) : jj_M l D cA ak yJ0_length_8abf5 (.code yJ0_length_8abf5 cJ0_length_8abf5 1 (some .int)) 1 20 0 0 [] [.ref (ak.1 23)] (fun (w : va_W) (r : Option Value) => (w = [] ∧ r = some (.int 1))) jj_noX := by
  refine jj_start hl (by decide) jw_719 (jj_le rfl) ?_
  intro p e s m args below meth c A hargs hA C hex hmn
  refine jj_aload_n C dJ0_length_8abf5_0 rfl ?_
  refine jj_sval (k := 23) C (by decide) jw_710 dJ0_length_8abf5_1 ?_
  refine jj_slen (k := 23) (v := 1) C (by decide) (by decide) dJ0_length_8abf5_4 ?_
  refine jj_aload_n C dJ0_length_8abf5_5 rfl ?_
  refine jq_callVs (rest := [.int 1]) C (ct_J0_coder_7d493_4 hl D cA ak) [] [] rfl rfl (by decide) (by decide) (by decide) 23 (by decide) rfl jw_714 jw_716 jw_717 jw_715 jw_713 jn_J0_coder_7d493 rfl (jj_le rfl) (jj_le rfl) (jj_le rfl) (jj_le rfl) (jj_le rfl) dJ0_length_8abf5_6 rfl (fun _ _ hX => hX.elim) (fun w1 r O_2 => ?_)
  obtain ⟨rfl, rfl⟩ := O_2
  refine jj_apd rfl ?_
  refine jj_ishr (v := 1) C dJ0_length_8abf5_9 (by decide) ?_
  exact jj_iret C ⟨rfl, rfl⟩ dJ0_length_8abf5_10 (jj_le rfl) (jj_le rfl)


set_option maxHeartbeats 4000000 in
set_option maxRecDepth 100000 in
theorem ct_X11_isWord_4 {l : Launch} (hl : l.stackTraces = false) (D : va_G) (cA : Nat → ClassId) (ak : (Nat → Nat) × (Nat → Nat)) (h0 h1 h2 h3 h4 h5 h6 h7 h8 h9 h10 h11 h12 : Nat) : jj_M l D cA ak yX11_isWord (.code yX11_isWord cX11_isWord 4 (some .boolean)) 2 40 0 0 [(h0, .inr (12, [.ref h1, .ref h2, .ref h3, .ref h4, .ref h5, .ref h6, .int 0, .int 0, .long 0, .long 0, .ref h7, .ref h8, .ref h9, .int 0, .int 0, .int 0, .int 0, .int 1, .int 0, .int 0, .int 0, .ref h10, .ref h11, .ref h12, .int 0]))] [.ref h0, .ref (ak.1 23)] (fun (w : va_W) (r : Option Value) => (w = [(h0, .inr (12, [.ref h1, .ref h2, .ref h3, .ref h4, .ref h5, .ref h6, .int 0, .int 0, .long 0, .long 0, .ref h7, .ref h8, .ref h9, .int 0, .int 0, .int 0, .int 0, .int 1, .int 0, .int 0, .int 0, .ref h10, .ref h11, .ref h12, .int 0]))] ∧ r = some (.int 0))) jj_noX := by
  refine jj_start hl (by decide) jw_724 (jj_le rfl) ?_
  intro p e s m args below meth c A hargs hA C hex hmn
  refine jj_aload_n C dX11_isWord_0 rfl ?_
  refine jj_get C jk_12 15 (by decide) jw_688 0 rfl rfl dX11_isWord_1 ?_
  refine jj_aload_n C dX11_isWord_4 rfl ?_
  refine jj_get C jk_12 14 (by decide) jw_690 0 rfl rfl dX11_isWord_5 ?_
  refine jj_isub (v := 0) C dX11_isWord_8 (by decide) ?_
  refine jj_aload_n C dX11_isWord_9 rfl ?_
  refine jq_callVs (rest := [.int 0]) C (ct_J0_length_8abf5_4 hl D cA ak) [] [0] rfl rfl (by decide) (by decide) (by decide) 23 (by decide) rfl jw_720 jw_721 jw_722 jw_715 jw_719 jn_J0_length_8abf5 rfl (jj_le rfl) (jj_le rfl) (jj_le rfl) (jj_le rfl) (jj_le rfl) dX11_isWord_10 rfl (fun _ _ hX => hX.elim) (fun w1 r O_2 => ?_)
  obtain ⟨rfl, rfl⟩ := O_2
  refine jj_apd rfl ?_
  refine jj_icmp_neT (tgt := 20) C dX11_isWord_13 (by decide) (by decide) ?_
  refine jj_iconst (v := 0) C dX11_isWord_20 (by decide) ?_
  refine jj_istore_n C dX11_isWord_21 (by decide) rfl ?_
  refine jj_iconst (v := 0) C dX11_isWord_22 (by decide) ?_
  refine jj_istore_n C dX11_isWord_23 (by decide) rfl ?_
  refine jj_iload_n C dX11_isWord_24 rfl ?_
  refine jj_aload_n C dX11_isWord_25 rfl ?_
  refine jq_callVs (rest := [.int 0]) C (ct_J0_length_8abf5_4 hl D cA ak) [] [0] rfl rfl (by decide) (by decide) (by decide) 23 (by decide) rfl jw_720 jw_721 jw_722 jw_715 jw_719 jn_J0_length_8abf5 rfl (jj_le rfl) (jj_le rfl) (jj_le rfl) (jj_le rfl) (jj_le rfl) dX11_isWord_26 rfl (fun _ _ hX => hX.elim) (fun w1 r O_4 => ?_)
  obtain ⟨rfl, rfl⟩ := O_4
  refine jj_apd rfl ?_
  refine jj_icmp_geF (tgt := 66) C dX11_isWord_29 (by decide) (by decide) ?_
  refine jj_iload_n C dX11_isWord_32 rfl ?_
  refine jj_if_eqT (tgt := 66) C dX11_isWord_33 (by decide) (by decide) ?_
  refine jj_iload_n C dX11_isWord_66 rfl ?_
  exact jj_zret C rfl ⟨rfl, rfl⟩ dX11_isWord_67 (jj_le rfl) (jj_le rfl)


set_option maxHeartbeats 4000000 in
set_option maxRecDepth 100000 in
theorem ct_X11_must_2 {l : Launch} (hl : l.stackTraces = false) (D : va_G) (cA : Nat → ClassId) (ak : (Nat → Nat) × (Nat → Nat)) (h0 h1 h2 h3 h4 h5 h6 h7 h8 h9 h10 h11 h12 : Nat) : jj_M l D cA ak yX11_must (.code yX11_must cX11_must 2 none) 3 63 0 0 [(h0, .inr (12, [.ref h1, .ref h2, .ref h3, .ref h4, .ref h5, .ref h6, .int 0, .int 0, .long 0, .long 0, .ref h7, .ref h8, .ref h9, .int 0, .int 0, .int 0, .int 0, .int 1, .int 0, .int 0, .int 0, .ref h10, .ref h11, .ref h12, .int 0]))] [.ref h0, .ref (ak.1 23)] (fun (w : va_W) (r : Option Value) => (w = [(h0, .inr (12, [.ref h1, .ref h2, .ref h3, .ref h4, .ref h5, .ref h6, .int 0, .int 0, .long 0, .long 0, .ref h7, .ref h8, .ref h9, .int 0, .int 0, .int 0, .int 0, .int 1, .int 0, .int 0, .int 0, .ref h10, .ref h11, .ref h12, .int 0]))] ∧ r = none)) jj_noX := by
  refine jj_start hl (by decide) jw_739 (jj_le rfl) ?_
  intro p e s m args below meth c A hargs hA C hex hmn
  refine jj_aload_n C dX11_must_0 rfl ?_
  refine jj_aload_n C dX11_must_1 rfl ?_
  refine jq_callV (rest := []) C (ct_X11_isWord_4 hl D cA ak h0 h1 h2 h3 h4 h5 h6 h7 h8 h9 h10 h11 h12) [0] [] rfl rfl (by decide) (by decide) (by decide) 0 rfl rfl rfl jw_725 jw_726 jw_727 jw_224 jw_724 jn_X11_isWord rfl (jj_le rfl) (jj_le rfl) (jj_le rfl) (jj_le rfl) (jj_le rfl) dX11_must_2 rfl (fun _ _ hX => hX.elim) (fun w1 r O_2 => ?_)
  obtain ⟨rfl, rfl⟩ := O_2
  refine jj_apd rfl ?_
  refine jj_if_neF (tgt := 13) C dX11_must_5 (by decide) (by decide) ?_
  refine jj_aload_n C dX11_must_8 rfl ?_
  refine jj_iconst (v := 1) C dX11_must_9 (by decide) ?_
  refine jq_callV (rest := []) C (ct_X11_wrong_2 hl D cA ak h0 h1 h2 h3 h4 h5 h6 h7 h8 h9 h10 h11 h12) [0] [] rfl rfl (by decide) (by decide) (by decide) 0 rfl rfl rfl jw_730 jw_731 jw_732 jw_224 jw_729 jn_X11_wrong rfl (jj_le rfl) (jj_le rfl) (jj_le rfl) (jj_le rfl) (jj_le rfl) dX11_must_10 rfl (fun _ _ hX => hX.elim) (fun w1 r O_4 => ?_)
  obtain ⟨rfl, rfl⟩ := O_4
  refine jj_apd rfl ?_
  refine jj_aload_n C dX11_must_13 rfl ?_
  refine jq_callV (rest := []) C (ct_X11_pass_1 hl D cA ak h0 h1 h2 h3 h4 h5 h6 h7 h8 h9 h10 h11 h12) [0] [] rfl rfl (by decide) (by decide) (by decide) 0 rfl rfl rfl jw_735 jw_736 jw_737 jw_224 jw_734 jn_X11_pass rfl (jj_le rfl) (jj_le rfl) (jj_le rfl) (jj_le rfl) (jj_le rfl) dX11_must_14 rfl (fun _ _ hX => hX.elim) (fun w1 r O_6 => ?_)
  obtain ⟨rfl, rfl⟩ := O_6
  refine jj_apd rfl ?_
  exact jj_vret C ⟨rfl, rfl⟩ dX11_must_17 (jj_le rfl) (jj_le rfl)


set_option maxHeartbeats 4000000 in
set_option maxRecDepth 100000 in
theorem ct_J0_coder_7d493_5 {l : Launch} (hl : l.stackTraces = false) (D : va_G) (cA : Nat → ClassId) (ak : (Nat → Nat) × (Nat → Nat)) : jj_M l D cA ak yJ0_coder_7d493 (.code yJ0_coder_7d493 cJ0_coder_7d493 1 (some .byte)) 0 0 0 0 [] [.ref (ak.1 24)] (fun (w : va_W) (r : Option Value) => (w = [] ∧ r = some (.int 0))) jj_noX := by
  refine jj_start hl (by decide) jw_713 (jj_le rfl) ?_
  intro p e s m args below meth c A hargs hA C hex hmn
  refine jj_gcs C jw_711 dJ0_coder_7d493_0 ?_
  refine jj_if_eqF (tgt := 13) C dJ0_coder_7d493_3 (by decide) (by decide) ?_
  refine jj_aload_n C dJ0_coder_7d493_6 rfl ?_
  refine jj_scod (k := 24) C (by decide) jw_712 dJ0_coder_7d493_7 ?_
  refine jj_goto (tgt := 14) C dJ0_coder_7d493_10 (by decide) ?_
  exact jj_zret C rfl ⟨rfl, rfl⟩ dJ0_coder_7d493_14 (jj_le rfl) (jj_le rfl)


set_option maxHeartbeats 4000000 in
set_option maxRecDepth 100000 in
theorem ct_J0_length_8abf5_5 {l : Launch} (hl : l.stackTraces = false) (D : va_G) (cA : Nat → ClassId) (ak : (Nat → Nat) × (Nat → Nat)) : jj_M l D cA ak yJ0_length_8abf5 (.code yJ0_length_8abf5 cJ0_length_8abf5 1 (some .int)) 1 20 0 0 [] [.ref (ak.1 24)] (fun (w : va_W) (r : Option Value) => (w = [] ∧ r = some (.int 9))) jj_noX := by
  refine jj_start hl (by decide) jw_719 (jj_le rfl) ?_
  intro p e s m args below meth c A hargs hA C hex hmn
  refine jj_aload_n C dJ0_length_8abf5_0 rfl ?_
  refine jj_sval (k := 24) C (by decide) jw_710 dJ0_length_8abf5_1 ?_
  refine jj_slen (k := 24) (v := 9) C (by decide) (by decide) dJ0_length_8abf5_4 ?_
  refine jj_aload_n C dJ0_length_8abf5_5 rfl ?_
  refine jq_callVs (rest := [.int 9]) C (ct_J0_coder_7d493_5 hl D cA ak) [] [] rfl rfl (by decide) (by decide) (by decide) 24 (by decide) rfl jw_714 jw_716 jw_717 jw_715 jw_713 jn_J0_coder_7d493 rfl (jj_le rfl) (jj_le rfl) (jj_le rfl) (jj_le rfl) (jj_le rfl) dJ0_length_8abf5_6 rfl (fun _ _ hX => hX.elim) (fun w1 r O_2 => ?_)
  obtain ⟨rfl, rfl⟩ := O_2
  refine jj_apd rfl ?_
  refine jj_ishr (v := 9) C dJ0_length_8abf5_9 (by decide) ?_
  exact jj_iret C ⟨rfl, rfl⟩ dJ0_length_8abf5_10 (jj_le rfl) (jj_le rfl)


set_option maxHeartbeats 4000000 in
set_option maxRecDepth 100000 in
theorem ct_X11_isWord_5 {l : Launch} (hl : l.stackTraces = false) (D : va_G) (cA : Nat → ClassId) (ak : (Nat → Nat) × (Nat → Nat)) (h0 h1 h2 h3 h4 h5 h6 h7 h8 h9 h10 h11 h12 : Nat) : jj_M l D cA ak yX11_isWord (.code yX11_isWord cX11_isWord 4 (some .boolean)) 2 40 0 0 [(h0, .inr (12, [.ref h1, .ref h2, .ref h3, .ref h4, .ref h5, .ref h6, .int 0, .int 0, .long 0, .long 0, .ref h7, .ref h8, .ref h9, .int 0, .int 0, .int 0, .int 0, .int 1, .int 0, .int 0, .int 0, .ref h10, .ref h11, .ref h12, .int 0]))] [.ref h0, .ref (ak.1 24)] (fun (w : va_W) (r : Option Value) => (w = [(h0, .inr (12, [.ref h1, .ref h2, .ref h3, .ref h4, .ref h5, .ref h6, .int 0, .int 0, .long 0, .long 0, .ref h7, .ref h8, .ref h9, .int 0, .int 0, .int 0, .int 0, .int 1, .int 0, .int 0, .int 0, .ref h10, .ref h11, .ref h12, .int 0]))] ∧ r = some (.int 0))) jj_noX := by
  refine jj_start hl (by decide) jw_724 (jj_le rfl) ?_
  intro p e s m args below meth c A hargs hA C hex hmn
  refine jj_aload_n C dX11_isWord_0 rfl ?_
  refine jj_get C jk_12 15 (by decide) jw_688 0 rfl rfl dX11_isWord_1 ?_
  refine jj_aload_n C dX11_isWord_4 rfl ?_
  refine jj_get C jk_12 14 (by decide) jw_690 0 rfl rfl dX11_isWord_5 ?_
  refine jj_isub (v := 0) C dX11_isWord_8 (by decide) ?_
  refine jj_aload_n C dX11_isWord_9 rfl ?_
  refine jq_callVs (rest := [.int 0]) C (ct_J0_length_8abf5_5 hl D cA ak) [] [0] rfl rfl (by decide) (by decide) (by decide) 24 (by decide) rfl jw_720 jw_721 jw_722 jw_715 jw_719 jn_J0_length_8abf5 rfl (jj_le rfl) (jj_le rfl) (jj_le rfl) (jj_le rfl) (jj_le rfl) dX11_isWord_10 rfl (fun _ _ hX => hX.elim) (fun w1 r O_2 => ?_)
  obtain ⟨rfl, rfl⟩ := O_2
  refine jj_apd rfl ?_
  refine jj_icmp_neT (tgt := 20) C dX11_isWord_13 (by decide) (by decide) ?_
  refine jj_iconst (v := 0) C dX11_isWord_20 (by decide) ?_
  refine jj_istore_n C dX11_isWord_21 (by decide) rfl ?_
  refine jj_iconst (v := 0) C dX11_isWord_22 (by decide) ?_
  refine jj_istore_n C dX11_isWord_23 (by decide) rfl ?_
  refine jj_iload_n C dX11_isWord_24 rfl ?_
  refine jj_aload_n C dX11_isWord_25 rfl ?_
  refine jq_callVs (rest := [.int 0]) C (ct_J0_length_8abf5_5 hl D cA ak) [] [0] rfl rfl (by decide) (by decide) (by decide) 24 (by decide) rfl jw_720 jw_721 jw_722 jw_715 jw_719 jn_J0_length_8abf5 rfl (jj_le rfl) (jj_le rfl) (jj_le rfl) (jj_le rfl) (jj_le rfl) dX11_isWord_26 rfl (fun _ _ hX => hX.elim) (fun w1 r O_4 => ?_)
  obtain ⟨rfl, rfl⟩ := O_4
  refine jj_apd rfl ?_
  refine jj_icmp_geF (tgt := 66) C dX11_isWord_29 (by decide) (by decide) ?_
  refine jj_iload_n C dX11_isWord_32 rfl ?_
  refine jj_if_eqT (tgt := 66) C dX11_isWord_33 (by decide) (by decide) ?_
  refine jj_iload_n C dX11_isWord_66 rfl ?_
  exact jj_zret C rfl ⟨rfl, rfl⟩ dX11_isWord_67 (jj_le rfl) (jj_le rfl)


set_option maxHeartbeats 4000000 in
set_option maxRecDepth 100000 in
theorem ct_X11_must_3 {l : Launch} (hl : l.stackTraces = false) (D : va_G) (cA : Nat → ClassId) (ak : (Nat → Nat) × (Nat → Nat)) (h0 h1 h2 h3 h4 h5 h6 h7 h8 h9 h10 h11 h12 : Nat) : jj_M l D cA ak yX11_must (.code yX11_must cX11_must 2 none) 3 63 0 0 [(h0, .inr (12, [.ref h1, .ref h2, .ref h3, .ref h4, .ref h5, .ref h6, .int 0, .int 0, .long 0, .long 0, .ref h7, .ref h8, .ref h9, .int 0, .int 0, .int 0, .int 0, .int 1, .int 0, .int 0, .int 0, .ref h10, .ref h11, .ref h12, .int 0]))] [.ref h0, .ref (ak.1 24)] (fun (w : va_W) (r : Option Value) => (w = [(h0, .inr (12, [.ref h1, .ref h2, .ref h3, .ref h4, .ref h5, .ref h6, .int 0, .int 0, .long 0, .long 0, .ref h7, .ref h8, .ref h9, .int 0, .int 0, .int 0, .int 0, .int 1, .int 0, .int 0, .int 0, .ref h10, .ref h11, .ref h12, .int 0]))] ∧ r = none)) jj_noX := by
  refine jj_start hl (by decide) jw_739 (jj_le rfl) ?_
  intro p e s m args below meth c A hargs hA C hex hmn
  refine jj_aload_n C dX11_must_0 rfl ?_
  refine jj_aload_n C dX11_must_1 rfl ?_
  refine jq_callV (rest := []) C (ct_X11_isWord_5 hl D cA ak h0 h1 h2 h3 h4 h5 h6 h7 h8 h9 h10 h11 h12) [0] [] rfl rfl (by decide) (by decide) (by decide) 0 rfl rfl rfl jw_725 jw_726 jw_727 jw_224 jw_724 jn_X11_isWord rfl (jj_le rfl) (jj_le rfl) (jj_le rfl) (jj_le rfl) (jj_le rfl) dX11_must_2 rfl (fun _ _ hX => hX.elim) (fun w1 r O_2 => ?_)
  obtain ⟨rfl, rfl⟩ := O_2
  refine jj_apd rfl ?_
  refine jj_if_neF (tgt := 13) C dX11_must_5 (by decide) (by decide) ?_
  refine jj_aload_n C dX11_must_8 rfl ?_
  refine jj_iconst (v := 1) C dX11_must_9 (by decide) ?_
  refine jq_callV (rest := []) C (ct_X11_wrong_2 hl D cA ak h0 h1 h2 h3 h4 h5 h6 h7 h8 h9 h10 h11 h12) [0] [] rfl rfl (by decide) (by decide) (by decide) 0 rfl rfl rfl jw_730 jw_731 jw_732 jw_224 jw_729 jn_X11_wrong rfl (jj_le rfl) (jj_le rfl) (jj_le rfl) (jj_le rfl) (jj_le rfl) dX11_must_10 rfl (fun _ _ hX => hX.elim) (fun w1 r O_4 => ?_)
  obtain ⟨rfl, rfl⟩ := O_4
  refine jj_apd rfl ?_
  refine jj_aload_n C dX11_must_13 rfl ?_
  refine jq_callV (rest := []) C (ct_X11_pass_1 hl D cA ak h0 h1 h2 h3 h4 h5 h6 h7 h8 h9 h10 h11 h12) [0] [] rfl rfl (by decide) (by decide) (by decide) 0 rfl rfl rfl jw_735 jw_736 jw_737 jw_224 jw_734 jn_X11_pass rfl (jj_le rfl) (jj_le rfl) (jj_le rfl) (jj_le rfl) (jj_le rfl) dX11_must_14 rfl (fun _ _ hX => hX.elim) (fun w1 r O_6 => ?_)
  obtain ⟨rfl, rfl⟩ := O_6
  refine jj_apd rfl ?_
  exact jj_vret C ⟨rfl, rfl⟩ dX11_must_17 (jj_le rfl) (jj_le rfl)


set_option maxHeartbeats 4000000 in
set_option maxRecDepth 100000 in
theorem ct_X11_number_4 {l : Launch} (hl : l.stackTraces = false) (D : va_G) (cA : Nat → ClassId) (ak : (Nat → Nat) × (Nat → Nat)) (h0 h1 h2 h3 h4 h5 h6 h7 h8 h9 h10 h11 h12 : Nat) : jj_M l D cA ak yX11_number (.code yX11_number cX11_number 7 (some .int)) 0 0 0 0 [(h0, .inr (12, [.ref h1, .ref h2, .ref h3, .ref h4, .ref h5, .ref h6, .int 0, .int 0, .long 0, .long 0, .ref h7, .ref h8, .ref h9, .int 0, .int 0, .int 0, .int 0, .int 1, .int 0, .int 0, .int 0, .ref h10, .ref h11, .ref h12, .int 0]))] [.ref h0, .long 1, .long 6] (fun (w : va_W) (r : Option Value) => (w = [(h0, .inr (12, [.ref h1, .ref h2, .ref h3, .ref h4, .ref h5, .ref h6, .int 0, .int 0, .long 0, .long 0, .ref h7, .ref h8, .ref h9, .int 0, .int 0, .int 0, .int 0, .int 1, .int 0, .int 0, .int 0, .ref h10, .ref h11, .ref h12, .int 0]))] ∧ r = some (.int 0))) jj_noX := by
  refine jj_start hl (by decide) jw_744 (jj_le rfl) ?_
  intro p e s m args below meth c A hargs hA C hex hmn
  refine jj_aload_n C dX11_number_0 rfl ?_
  refine jj_get C jk_12 17 (by decide) jw_689 0 rfl rfl dX11_number_1 ?_
  refine jj_if_leF (tgt := 9) C dX11_number_4 (by decide) (by decide) ?_
  refine jj_iconst (v := 0) C dX11_number_7 (by decide) ?_
  exact jj_iret C ⟨rfl, rfl⟩ dX11_number_8 (jj_le rfl) (jj_le rfl)


set_option maxHeartbeats 4000000 in
set_option maxRecDepth 100000 in
theorem ct_X11_readHead_1 {l : Launch} (hl : l.stackTraces = false) (D : va_G) (cA : Nat → ClassId) (ak : (Nat → Nat) × (Nat → Nat)) (h0 h1 h2 h3 h4 h5 h6 h7 h8 h9 h10 h11 h12 : Nat) : jj_M l D cA ak yX11_readHead (.code yX11_readHead cX11_readHead 1 none) 4 84 0 0 [(h0, .inr (12, [.ref h2, .ref h3, .ref h4, .ref h5, .ref h1, .ref h6, .int 0, .int 0, .long 0, .long 0, .ref h7, .ref h8, .ref h9, .int 0, .int 0, .int 0, .int 0, .int 0, .int (-1), .int 0, .int 0, .ref h10, .ref h11, .ref h12, .int 0])), (h1, .inl (cA 2, 334, .inr (.inl (vp_updL (vp_updL (fun _ => 0) 0 1) 4 100))))] [.ref h0] (fun (w : va_W) (r : Option Value) => (w = [(h1, .inl (cA 2, 334, .inr (.inl (vp_updL (vp_updL (vp_updL (vp_updL (vp_updL (vp_updL (fun _ => 0) 0 1) 4 100) 2 0) 3 0) 4 0) 0 0)))), (h0, .inr (12, [.ref h2, .ref h3, .ref h4, .ref h5, .ref h1, .ref h6, .int 0, .int 0, .long 0, .long 0, .ref h7, .ref h8, .ref h9, .int 0, .int 0, .int 0, .int 0, .int 1, .int 0, .int 0, .int 0, .ref h10, .ref h11, .ref h12, .int 0]))] ∧ r = none)) jj_noX := by
  refine jj_start hl (by decide) jw_751 (jj_le rfl) ?_
  intro p e s m args below meth c A hargs hA C hex hmn
  refine jj_aload_n C dX11_readHead_0 rfl ?_
  refine jj_ldcsw (k := 20) (tx := "fund") C dX11_readHead_1 (by decide +kernel) ?_
  refine jq_callV (rest := []) C (ct_X11_must_1 hl D cA ak h0 h2 h3 h4 h5 h1 h6 h7 h8 h9 h10 h11 h12) [0] [1] rfl rfl (by decide) (by decide) (by decide) 0 rfl rfl rfl jw_740 jw_741 jw_742 jw_224 jw_739 jn_X11_must rfl (jj_le rfl) (jj_le rfl) (jj_le rfl) (jj_le rfl) (jj_le rfl) dX11_readHead_4 rfl (fun _ _ hX => hX.elim) (fun w1 r O_2 => ?_)
  obtain ⟨rfl, rfl⟩ := O_2
  refine jj_apd rfl ?_
  refine jj_aload_n C dX11_readHead_7 rfl ?_
  refine jj_ldcsw (k := 21) (tx := "equal") C dX11_readHead_8 (by decide +kernel) ?_
  refine jq_callV (rest := []) C (ct_X11_isWord_2 hl D cA ak h0 h2 h3 h4 h5 h1 h6 h7 h8 h9 h10 h11 h12) [1] [0] rfl rfl (by decide) (by decide) (by decide) 0 rfl rfl rfl jw_725 jw_726 jw_727 jw_224 jw_724 jn_X11_isWord rfl (jj_le rfl) (jj_le rfl) (jj_le rfl) (jj_le rfl) (jj_le rfl) dX11_readHead_11 rfl (fun _ _ hX => hX.elim) (fun w1 r O_4 => ?_)
  obtain ⟨rfl, rfl⟩ := O_4
  refine jj_apd rfl ?_
  refine jj_if_eqT (tgt := 27) C dX11_readHead_14 (by decide) (by decide) ?_
  refine jj_aload_n C dX11_readHead_27 rfl ?_
  refine jj_ldcsw (k := 22) (tx := "series") C dX11_readHead_28 (by decide +kernel) ?_
  refine jq_callV (rest := []) C (ct_X11_isWord_3 hl D cA ak h0 h2 h3 h4 h5 h1 h6 h7 h8 h9 h10 h11 h12) [1] [0] rfl rfl (by decide) (by decide) (by decide) 0 rfl rfl rfl jw_725 jw_726 jw_727 jw_224 jw_724 jn_X11_isWord rfl (jj_le rfl) (jj_le rfl) (jj_le rfl) (jj_le rfl) (jj_le rfl) dX11_readHead_31 rfl (fun _ _ hX => hX.elim) (fun w1 r O_6 => ?_)
  obtain ⟨rfl, rfl⟩ := O_6
  refine jj_apd rfl ?_
  refine jj_if_neF (tgt := 42) C dX11_readHead_34 (by decide) (by decide) ?_
  refine jj_aload_n C dX11_readHead_37 rfl ?_
  refine jj_iconst (v := 1) C dX11_readHead_38 (by decide) ?_
  refine jq_callV (rest := []) C (ct_X11_wrong_2 hl D cA ak h0 h2 h3 h4 h5 h1 h6 h7 h8 h9 h10 h11 h12) [1] [0] rfl rfl (by decide) (by decide) (by decide) 0 rfl rfl rfl jw_730 jw_731 jw_732 jw_224 jw_729 jn_X11_wrong rfl (jj_le rfl) (jj_le rfl) (jj_le rfl) (jj_le rfl) (jj_le rfl) dX11_readHead_39 rfl (fun _ _ hX => hX.elim) (fun w1 r O_8 => ?_)
  obtain ⟨rfl, rfl⟩ := O_8
  refine jj_apd rfl ?_
  refine jj_aload_n C dX11_readHead_42 rfl ?_
  refine jq_callV (rest := []) C (ct_X11_pass_1 hl D cA ak h0 h2 h3 h4 h5 h1 h6 h7 h8 h9 h10 h11 h12) [1] [0] rfl rfl (by decide) (by decide) (by decide) 0 rfl rfl rfl jw_735 jw_736 jw_737 jw_224 jw_734 jn_X11_pass rfl (jj_le rfl) (jj_le rfl) (jj_le rfl) (jj_le rfl) (jj_le rfl) dX11_readHead_43 rfl (fun _ _ hX => hX.elim) (fun w1 r O_10 => ?_)
  obtain ⟨rfl, rfl⟩ := O_10
  refine jj_apd rfl ?_
  refine jj_aload_n C dX11_readHead_46 rfl ?_
  refine jj_get C jk_12 4 (by decide) jw_211 1 rfl rfl dX11_readHead_47 ?_
  refine jj_iconst (v := 2) C dX11_readHead_50 (by decide) ?_
  refine jj_aload_n C dX11_readHead_51 rfl ?_
  refine jj_lconst (v := 0) C dX11_readHead_52 (by decide) ?_
  refine jj_ldc2 (v := 9999) C dX11_readHead_53 jw_417 ?_
  refine jq_callV (rest := [.int 2, .ref h1]) C (ct_X11_number_1 hl D cA ak h0 h2 h3 h4 h5 h1 h6 h7 h8 h9 h10 h11 h12) [1] [0] rfl rfl (by decide) (by decide) (by decide) 0 rfl rfl rfl jw_745 jw_746 jw_747 jw_224 jw_744 jn_X11_number rfl (jj_le rfl) (jj_le rfl) (jj_le rfl) (jj_le rfl) (jj_le rfl) dX11_readHead_56 rfl (fun _ _ hX => hX.elim) (fun w1 r O_12 => ?_)
  obtain ⟨rfl, rfl⟩ := O_12
  refine jj_apd rfl ?_
  refine jj_i2l (v := 0) C dX11_readHead_59 (by decide) ?_
  refine jj_last C 0 rfl (vp_in_iff.mpr (by decide)) (g := (vp_updL (vp_updL (vp_updL (fun _ => 0) 0 1) 4 100) 2 0)) rfl rfl dX11_readHead_60 ?_
  refine jj_aload_n C dX11_readHead_61 rfl ?_
  refine jj_get C jk_12 4 (by decide) jw_211 1 rfl rfl dX11_readHead_62 ?_
  refine jj_iconst (v := 3) C dX11_readHead_65 (by decide) ?_
  refine jj_aload_n C dX11_readHead_66 rfl ?_
  refine jj_lconst (v := 0) C dX11_readHead_67 (by decide) ?_
  refine jj_ldc2 (v := 50) C dX11_readHead_68 jw_749 ?_
  refine jq_callV (rest := [.int 3, .ref h1]) C (ct_X11_number_2 hl D cA ak h0 h2 h3 h4 h5 h1 h6 h7 h8 h9 h10 h11 h12) [1] [0] rfl rfl (by decide) (by decide) (by decide) 0 rfl rfl rfl jw_745 jw_746 jw_747 jw_224 jw_744 jn_X11_number rfl (jj_le rfl) (jj_le rfl) (jj_le rfl) (jj_le rfl) (jj_le rfl) dX11_readHead_71 rfl (fun _ _ hX => hX.elim) (fun w1 r O_14 => ?_)
  obtain ⟨rfl, rfl⟩ := O_14
  refine jj_apd rfl ?_
  refine jj_i2l (v := 0) C dX11_readHead_74 (by decide) ?_
  refine jj_last C 0 rfl (vp_in_iff.mpr (by decide)) (g := (vp_updL (vp_updL (vp_updL (vp_updL (fun _ => 0) 0 1) 4 100) 2 0) 3 0)) rfl rfl dX11_readHead_75 ?_
  refine jj_aload_n C dX11_readHead_76 rfl ?_
  refine jj_get C jk_12 4 (by decide) jw_211 1 rfl rfl dX11_readHead_77 ?_
  refine jj_iconst (v := 4) C dX11_readHead_80 (by decide) ?_
  refine jj_aload_n C dX11_readHead_81 rfl ?_
  refine jj_lconst (v := 1) C dX11_readHead_82 (by decide) ?_
  refine jj_ldc2 (v := 100) C dX11_readHead_83 jw_221 ?_
  refine jq_callV (rest := [.int 4, .ref h1]) C (ct_X11_number_3 hl D cA ak h0 h2 h3 h4 h5 h1 h6 h7 h8 h9 h10 h11 h12) [1] [0] rfl rfl (by decide) (by decide) (by decide) 0 rfl rfl rfl jw_745 jw_746 jw_747 jw_224 jw_744 jn_X11_number rfl (jj_le rfl) (jj_le rfl) (jj_le rfl) (jj_le rfl) (jj_le rfl) dX11_readHead_86 rfl (fun _ _ hX => hX.elim) (fun w1 r O_16 => ?_)
  obtain ⟨rfl, rfl⟩ := O_16
  refine jj_apd rfl ?_
  refine jj_i2l (v := 0) C dX11_readHead_89 (by decide) ?_
  refine jj_last C 0 rfl (vp_in_iff.mpr (by decide)) (g := (vp_updL (vp_updL (vp_updL (vp_updL (vp_updL (fun _ => 0) 0 1) 4 100) 2 0) 3 0) 4 0)) rfl rfl dX11_readHead_90 ?_
  refine jj_aload_n C dX11_readHead_91 rfl ?_
  refine jj_ldcsw (k := 23) (tx := ";") C dX11_readHead_92 (by decide +kernel) ?_
  refine jq_callV (rest := []) C (ct_X11_must_2 hl D cA ak h0 h2 h3 h4 h5 h1 h6 h7 h8 h9 h10 h11 h12) [1] [0] rfl rfl (by decide) (by decide) (by decide) 0 rfl rfl rfl jw_740 jw_741 jw_742 jw_224 jw_739 jn_X11_must rfl (jj_le rfl) (jj_le rfl) (jj_le rfl) (jj_le rfl) (jj_le rfl) dX11_readHead_95 rfl (fun _ _ hX => hX.elim) (fun w1 r O_18 => ?_)
  obtain ⟨rfl, rfl⟩ := O_18
  refine jj_apd rfl ?_
  refine jj_aload_n C dX11_readHead_98 rfl ?_
  refine jj_ldcsw (k := 24) (tx := "investors") C dX11_readHead_99 (by decide +kernel) ?_
  refine jq_callV (rest := []) C (ct_X11_must_3 hl D cA ak h0 h2 h3 h4 h5 h1 h6 h7 h8 h9 h10 h11 h12) [1] [0] rfl rfl (by decide) (by decide) (by decide) 0 rfl rfl rfl jw_740 jw_741 jw_742 jw_224 jw_739 jn_X11_must rfl (jj_le rfl) (jj_le rfl) (jj_le rfl) (jj_le rfl) (jj_le rfl) dX11_readHead_102 rfl (fun _ _ hX => hX.elim) (fun w1 r O_20 => ?_)
  obtain ⟨rfl, rfl⟩ := O_20
  refine jj_apd rfl ?_
  refine jj_aload_n C dX11_readHead_105 rfl ?_
  refine jj_get C jk_12 4 (by decide) jw_211 1 rfl rfl dX11_readHead_106 ?_
  refine jj_iconst (v := 0) C dX11_readHead_109 (by decide) ?_
  refine jj_aload_n C dX11_readHead_110 rfl ?_
  refine jj_lconst (v := 1) C dX11_readHead_111 (by decide) ?_
  refine jj_ldc2 (v := 6) C dX11_readHead_112 jw_750 ?_
  refine jq_callV (rest := [.int 0, .ref h1]) C (ct_X11_number_4 hl D cA ak h0 h2 h3 h4 h5 h1 h6 h7 h8 h9 h10 h11 h12) [1] [0] rfl rfl (by decide) (by decide) (by decide) 0 rfl rfl rfl jw_745 jw_746 jw_747 jw_224 jw_744 jn_X11_number rfl (jj_le rfl) (jj_le rfl) (jj_le rfl) (jj_le rfl) (jj_le rfl) dX11_readHead_115 rfl (fun _ _ hX => hX.elim) (fun w1 r O_22 => ?_)
  obtain ⟨rfl, rfl⟩ := O_22
  refine jj_apd rfl ?_
  refine jj_i2l (v := 0) C dX11_readHead_118 (by decide) ?_
  refine jj_last C 0 rfl (vp_in_iff.mpr (by decide)) (g := (vp_updL (vp_updL (vp_updL (vp_updL (vp_updL (vp_updL (fun _ => 0) 0 1) 4 100) 2 0) 3 0) 4 0) 0 0)) rfl rfl dX11_readHead_119 ?_
  refine jj_aload_n C dX11_readHead_120 rfl ?_
  refine jj_ldcsw (k := 23) (tx := ";") C dX11_readHead_121 (by decide +kernel) ?_
  refine jq_callV (rest := []) C (ct_X11_must_2 hl D cA ak h0 h2 h3 h4 h5 h1 h6 h7 h8 h9 h10 h11 h12) [1] [0] rfl rfl (by decide) (by decide) (by decide) 0 rfl rfl rfl jw_740 jw_741 jw_742 jw_224 jw_739 jn_X11_must rfl (jj_le rfl) (jj_le rfl) (jj_le rfl) (jj_le rfl) (jj_le rfl) dX11_readHead_124 rfl (fun _ _ hX => hX.elim) (fun w1 r O_24 => ?_)
  obtain ⟨rfl, rfl⟩ := O_24
  refine jj_apd rfl ?_
  exact jj_vret C ⟨rfl, rfl⟩ dX11_readHead_127 (jj_le rfl) (jj_le rfl)


