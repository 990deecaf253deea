set_option maxHeartbeats 4000000 in
set_option maxRecDepth 100000 in
theorem ct_L_unitsOf_1 {l : Launch} (hl : l.stackTraces = false) (D : va_G) (cA : Nat → ClassId) (ak : (Nat → Nat) × (Nat → Nat)) (h0 h1 h2 h3 h4 h5 h6 h7 h8 h9 h10 h11 : Nat) (a0 : Int32) : jj_M l D cA ak yL_unitsOf (.codeWith yL_unitsOf cL_unitsOf 4 (some .int) [(0, 8, 11, 25)]) 9 144 1 6 [(h0, .inr (11, [.ref h3, .int 0, .int (-1), .ref h2, .ref h4, .ref h5, .ref h6, .int 0, .int 0, .ref h7])), (h1, .inl (cA 2, 1, .inr (.inl (fun _ => 0)))), (h2, .inr (2, [.int 1, .int 0, .int 0, .int 0, .int 100, .int 0, .int 0, .int 0, .int 0, .int 0, .ref h8, .ref h9, .ref h10, .ref h11]))] [.ref h0, .int a0, .ref h1] (fun (w : va_W) (r : Option Value) => (a0 < 0 ∧ w = [(h1, .inl (cA 2, 1, .inr (.inl (fun _ => 0))))] ∧ r = some (.int 1)) ∨ (¬ a0 < 0 ∧ 1 ≤ a0 ∧ w = [(h1, .inl (cA 2, 1, .inr (.inl (fun _ => 0))))] ∧ r = some (.int 1)) ∨ (¬ a0 < 0 ∧ ¬ 1 ≤ a0 ∧ w = [(h1, .inl (cA 2, 1, .inr (.inl (vp_updL (fun _ => 0) 0 0))))] ∧ r = some (.int 0))) jj_noX := by
  refine jj_startW hl (by decide) jw_1236 (jj_le rfl) ?_
  intro p e s m args below meth c A hargs hA C htab hmn
  refine jj_aload_n C dL_unitsOf_0 rfl ?_
  refine jj_iconst (v := 0) C dL_unitsOf_1 (by decide) ?_
  refine jj_aload_n C dL_unitsOf_2 rfl ?_
  refine jj_iload_n C dL_unitsOf_3 rfl ?_
  refine jq_callV (rest := [.int 0, .ref h1]) C (ct_X10_unitsOf_1 hl D cA ak h0 h2 h3 h4 h5 h6 h7 h8 h9 h10 h11 a0) [0, 2] [1] rfl rfl (by decide) (by decide) (by decide) 0 rfl rfl rfl jw_1232 jw_1233 jw_1234 jw_271 jw_517 jn_X10_unitsOf rfl (jj_le rfl) (jj_le rfl) (jj_le rfl) (jj_le rfl) (jj_le rfl) dL_unitsOf_4 rfl (fun E w1 X_1 => ?_) (fun w1 r O_2 => ?_)
  · rcases X_1 with ⟨rfl, c_3⟩ | ⟨rfl, c_4, c_5⟩
    · refine jj_leftY ?_
      refine jj_catch C [] (⟨0, 8, 11, 25⟩ : ExceptionTableEntry) [] (htab.trans rfl) (fun z hz => by cases hz) (by decide) (by decide) jw_1038 (by decide +kernel) (fun q9 => ?_)
      refine jj_astore_n C dL_unitsOf_11 (by decide) rfl ?_
      refine jj_iconst (v := 1) C dL_unitsOf_12 (by decide) ?_
      exact jj_iret C (Or.inl ⟨c_3, rfl, rfl⟩) dL_unitsOf_13 (jj_le rfl) (jj_le rfl)
    · refine jj_leftY ?_
      refine jj_catch C [] (⟨0, 8, 11, 25⟩ : ExceptionTableEntry) [] (htab.trans rfl) (fun z hz => by cases hz) (by decide) (by decide) jw_1038 (by decide +kernel) (fun q9 => ?_)
      refine jj_astore_n C dL_unitsOf_11 (by decide) rfl ?_
      refine jj_iconst (v := 1) C dL_unitsOf_12 (by decide) ?_
      exact jj_iret C (Or.inr (Or.inl ⟨c_4, c_5, rfl, rfl⟩)) dL_unitsOf_13 (jj_le rfl) (jj_le rfl)
  · obtain ⟨c_6, c_7, rfl⟩ := O_2
    refine jj_left ?_
    refine jj_last C 0 rfl (vp_in_iff.mpr (by decide)) (g := (vp_updL (fun _ => 0) 0 0)) rfl rfl dL_unitsOf_7 ?_
    refine jj_goto (tgt := 14) C dL_unitsOf_8 (by decide) ?_
    refine jj_iconst (v := 0) C dL_unitsOf_14 (by decide) ?_
    exact jj_iret C (Or.inr (Or.inr ⟨c_6, c_7, rfl, rfl⟩)) dL_unitsOf_15 (jj_le rfl) (jj_le rfl)


set_option maxHeartbeats 4000000 in
set_option maxRecDepth 100000 in
theorem ct_L_holding_1 {l : Launch} (hl : l.stackTraces = false) (D : va_G) (cA : Nat → ClassId) (ak : (Nat → Nat) × (Nat → Nat)) (h0 h1 h2 h3 h4 h5 h6 h7 h8 h9 h10 h11 : Nat) (a0 : Int32) (a1 : Int32) : jj_M l D cA ak yL_holding (.codeWith yL_holding cL_holding 5 (some .int) [(0, 9, 12, 25)]) 9 146 2 12 [(h0, .inr (11, [.ref h3, .int 0, .int (-1), .ref h1, .ref h4, .ref h5, .ref h6, .int 0, .int 0, .ref h7])), (h1, .inr (2, [.int 1, .int 0, .int 0, .int 0, .int 100, .int 0, .int 0, .int 0, .int 0, .int 0, .ref h8, .ref h9, .ref h10, .ref h11]))] [.ref h0, .int a0, .int a1, .ref h2] (fun (w : va_W) (r : Option Value) => (a0 < 0 ∧ w = [] ∧ r = some (.int 1)) ∨ (¬ a0 < 0 ∧ 1 ≤ a0 ∧ w = [] ∧ r = some (.int 1)) ∨ (¬ a0 < 0 ∧ ¬ 1 ≤ a0 ∧ w = [] ∧ r = some (.int 1))) jj_noX := by
  refine jj_startW hl (by decide) jw_1248 (jj_le rfl) ?_
  intro p e s m args below meth c A hargs hA C htab hmn
  refine jj_aload_n C dL_holding_0 rfl ?_
  refine jj_iconst (v := 0) C dL_holding_1 (by decide) ?_
  refine jj_aload_n C dL_holding_2 rfl ?_
  refine jj_iload_n C dL_holding_3 rfl ?_
  refine jj_iload_n C dL_holding_4 rfl ?_
  refine jq_callV (rest := [.int 0, .ref h2]) C (ct_X10_holding_1 hl D cA ak h0 h1 h3 h4 h5 h6 h7 h8 h9 h10 h11 a0 a1) [0, 1] [] rfl rfl (by decide) (by decide) (by decide) 0 rfl rfl rfl jw_1244 jw_1245 jw_1246 jw_271 jw_519 jn_X10_holding rfl (jj_le rfl) (jj_le rfl) (jj_le rfl) (jj_le rfl) (jj_le rfl) dL_holding_5 rfl (fun E w1 X_1 => ?_) (fun w1 r O_2 => ?_)
  · rcases X_1 with ⟨rfl, c_3⟩ | ⟨rfl, c_4, c_5⟩ | ⟨rfl, c_6, c_7⟩
    · refine jj_leftY ?_
      refine jj_catch C [] (⟨0, 9, 12, 25⟩ : ExceptionTableEntry) [] (htab.trans rfl) (fun z hz => by cases hz) (by decide) (by decide) jw_1038 (by decide +kernel) (fun q9 => ?_)
      refine jj_astore C dL_holding_12 (by decide) rfl ?_
      refine jj_iconst (v := 1) C dL_holding_14 (by decide) ?_
      exact jj_iret C (Or.inl ⟨c_3, rfl, rfl⟩) dL_holding_15 (jj_le rfl) (jj_le rfl)
    · refine jj_leftY ?_
      refine jj_catch C [] (⟨0, 9, 12, 25⟩ : ExceptionTableEntry) [] (htab.trans rfl) (fun z hz => by cases hz) (by decide) (by decide) jw_1038 (by decide +kernel) (fun q9 => ?_)
      refine jj_astore C dL_holding_12 (by decide) rfl ?_
      refine jj_iconst (v := 1) C dL_holding_14 (by decide) ?_
      exact jj_iret C (Or.inr (Or.inl ⟨c_4, c_5, rfl, rfl⟩)) dL_holding_15 (jj_le rfl) (jj_le rfl)
    · refine jj_leftY ?_
      refine jj_catch C [] (⟨0, 9, 12, 25⟩ : ExceptionTableEntry) [] (htab.trans rfl) (fun z hz => by cases hz) (by decide) (by decide) jw_1038 (by decide +kernel) (fun q9 => ?_)
      refine jj_astore C dL_holding_12 (by decide) rfl ?_
      refine jj_iconst (v := 1) C dL_holding_14 (by decide) ?_
      exact jj_iret C (Or.inr (Or.inr ⟨c_6, c_7, rfl, rfl⟩)) dL_holding_15 (jj_le rfl) (jj_le rfl)
  · exact O_2.elim


set_option maxHeartbeats 4000000 in
set_option maxRecDepth 100000 in
theorem ct_L_valueOf_1 {l : Launch} (hl : l.stackTraces = false) (D : va_G) (cA : Nat → ClassId) (ak : (Nat → Nat) × (Nat → Nat)) (h0 h1 h2 h3 h4 h5 h6 h7 h8 h9 h10 h11 h12 : Nat) (a0 : Int32) : jj_M l D cA ak yL_valueOf (.codeWith yL_valueOf cL_valueOf 4 (some .int) [(0, 8, 11, 25)]) 9 144 1 6 [(h0, .inr (11, [.ref h4, .int 0, .int (-1), .ref h2, .ref h5, .ref h3, .ref h6, .int 0, .int 0, .ref h7])), (h1, .inl (cA 2, 1, .inr (.inl (fun _ => 0)))), (h2, .inr (2, [.int 1, .int 0, .int 0, .int 0, .int 100, .int 0, .int 0, .int 0, .int 0, .int 0, .ref h8, .ref h9, .ref h10, .ref h11])), (h3, .inr (3, [.ref h12, .long 0, .long 0, .long 0, .long 0, .long 0]))] [.ref h0, .int a0, .ref h1] (fun (w : va_W) (r : Option Value) => (a0 < 0 ∧ w = [(h1, .inl (cA 2, 1, .inr (.inl (fun _ => 0))))] ∧ r = some (.int 1)) ∨ (¬ a0 < 0 ∧ 1 ≤ a0 ∧ w = [(h1, .inl (cA 2, 1, .inr (.inl (fun _ => 0))))] ∧ r = some (.int 1)) ∨ (¬ a0 < 0 ∧ ¬ 1 ≤ a0 ∧ w = [(h1, .inl (cA 2, 1, .inr (.inl (vp_updL (fun _ => 0) 0 0))))] ∧ r = some (.int 0))) jj_noX := by
  refine jj_startW hl (by decide) jw_1260 (jj_le rfl) ?_
  intro p e s m args below meth c A hargs hA C htab hmn
  refine jj_aload_n C dL_valueOf_0 rfl ?_
  refine jj_iconst (v := 0) C dL_valueOf_1 (by decide) ?_
  refine jj_aload_n C dL_valueOf_2 rfl ?_
  refine jj_iload_n C dL_valueOf_3 rfl ?_
  refine jq_callV (rest := [.int 0, .ref h1]) C (ct_X10_valueOf_1 hl D cA ak h0 h2 h3 h4 h5 h6 h7 h8 h9 h10 h11 h12 a0) [0, 2, 3] [1] rfl rfl (by decide) (by decide) (by decide) 0 rfl rfl rfl jw_1256 jw_1257 jw_1258 jw_271 jw_539 jn_X10_valueOf rfl (jj_le rfl) (jj_le rfl) (jj_le rfl) (jj_le rfl) (jj_le rfl) dL_valueOf_4 rfl (fun E w1 X_1 => ?_) (fun w1 r O_2 => ?_)
  · rcases X_1 with ⟨rfl, c_3⟩ | ⟨rfl, c_4, c_5⟩
    · refine jj_leftY ?_
      refine jj_catch C [] (⟨0, 8, 11, 25⟩ : ExceptionTableEntry) [] (htab.trans rfl) (fun z hz => by cases hz) (by decide) (by decide) jw_1038 (by decide +kernel) (fun q9 => ?_)
      refine jj_astore_n C dL_valueOf_11 (by decide) rfl ?_
      refine jj_iconst (v := 1) C dL_valueOf_12 (by decide) ?_
      exact jj_iret C (Or.inl ⟨c_3, rfl, rfl⟩) dL_valueOf_13 (jj_le rfl) (jj_le rfl)
    · refine jj_leftY ?_
      refine jj_catch C [] (⟨0, 8, 11, 25⟩ : ExceptionTableEntry) [] (htab.trans rfl) (fun z hz => by cases hz) (by decide) (by decide) jw_1038 (by decide +kernel) (fun q9 => ?_)
      refine jj_astore_n C dL_valueOf_11 (by decide) rfl ?_
      refine jj_iconst (v := 1) C dL_valueOf_12 (by decide) ?_
      exact jj_iret C (Or.inr (Or.inl ⟨c_4, c_5, rfl, rfl⟩)) dL_valueOf_13 (jj_le rfl) (jj_le rfl)
  · obtain ⟨c_6, c_7, rfl⟩ := O_2
    refine jj_left ?_
    refine jj_last C 0 rfl (vp_in_iff.mpr (by decide)) (g := (vp_updL (fun _ => 0) 0 0)) rfl rfl dL_valueOf_7 ?_
    refine jj_goto (tgt := 14) C dL_valueOf_8 (by decide) ?_
    refine jj_iconst (v := 0) C dL_valueOf_14 (by decide) ?_
    exact jj_iret C (Or.inr (Or.inr ⟨c_6, c_7, rfl, rfl⟩)) dL_valueOf_15 (jj_le rfl) (jj_le rfl)


set_option maxHeartbeats 4000000 in
set_option maxRecDepth 100000 in
theorem ct_L_richest_1 {l : Launch} (hl : l.stackTraces = false) (D : va_G) (cA : Nat → ClassId) (ak : (Nat → Nat) × (Nat → Nat)) (h0 h1 h2 h3 h4 h5 h6 h7 h8 h9 h10 h11 h12 : Nat) (a0 : Int32) : jj_M l D cA ak yL_richest (.codeWith yL_richest cL_richest 4 (some .int) [(0, 9, 12, 25)]) 9 145 1 6 [(h0, .inr (11, [.ref h4, .int 0, .int (-1), .ref h2, .ref h5, .ref h3, .ref h6, .int 0, .int 0, .ref h7])), (h1, .inl (cA 2, 1, .inr (.inl (fun _ => 0)))), (h2, .inr (2, [.int 1, .int 0, .int 0, .int 0, .int 100, .int 0, .int 0, .int 0, .int 0, .int 0, .ref h8, .ref h9, .ref h10, .ref h11])), (h3, .inr (3, [.ref h12, .long 0, .long 0, .long 0, .long 0, .long 0]))] [.ref h0, .int a0, .ref h1] (fun (w : va_W) (r : Option Value) => (a0 < 0 ∧ w = [(h1, .inl (cA 2, 1, .inr (.inl (fun _ => 0))))] ∧ r = some (.int 1)) ∨ (¬ a0 < 0 ∧ 1 ≤ a0 ∧ w = [(h1, .inl (cA 2, 1, .inr (.inl (fun _ => 0))))] ∧ r = some (.int 1)) ∨ (¬ a0 < 0 ∧ ¬ 1 ≤ a0 ∧ ¬ 0 = a0 ∧ w = [(h1, .inl (cA 2, 1, .inr (.inl (vp_updL (fun _ => 0) 0 (-1)))))] ∧ r = some (.int 0)) ∨ (¬ a0 < 0 ∧ ¬ 1 ≤ a0 ∧ 0 = a0 ∧ w = [(h1, .inl (cA 2, 1, .inr (.inl (vp_updL (fun _ => 0) 0 0))))] ∧ r = some (.int 0))) jj_noX := by
  refine jj_startW hl (by decide) jw_1272 (jj_le rfl) ?_
  intro p e s m args below meth c A hargs hA C htab hmn
  refine jj_aload_n C dL_richest_0 rfl ?_
  refine jj_iconst (v := 0) C dL_richest_1 (by decide) ?_
  refine jj_aload_n C dL_richest_2 rfl ?_
  refine jj_iload_n C dL_richest_3 rfl ?_
  refine jq_callV (rest := [.int 0, .ref h1]) C (ct_X10_richest_1 hl D cA ak h0 h2 h3 h4 h5 h6 h7 h8 h9 h10 h11 h12 a0) [0, 2, 3] [1] rfl rfl (by decide) (by decide) (by decide) 0 rfl rfl rfl jw_1268 jw_1269 jw_1270 jw_271 jw_567 jn_X10_richest rfl (jj_le rfl) (jj_le rfl) (jj_le rfl) (jj_le rfl) (jj_le rfl) dL_richest_4 rfl (fun E w1 X_1 => ?_) (fun w1 r O_2 => ?_)
  · rcases X_1 with ⟨rfl, c_3⟩ | ⟨rfl, c_4, c_5⟩
    · refine jj_leftY ?_
      refine jj_catch C [] (⟨0, 9, 12, 25⟩ : ExceptionTableEntry) [] (htab.trans rfl) (fun z hz => by cases hz) (by decide) (by decide) jw_1038 (by decide +kernel) (fun q9 => ?_)
      refine jj_astore_n C dL_richest_12 (by decide) rfl ?_
      refine jj_iconst (v := 1) C dL_richest_13 (by decide) ?_
      exact jj_iret C (Or.inl ⟨c_3, rfl, rfl⟩) dL_richest_14 (jj_le rfl) (jj_le rfl)
    · refine jj_leftY ?_
      refine jj_catch C [] (⟨0, 9, 12, 25⟩ : ExceptionTableEntry) [] (htab.trans rfl) (fun z hz => by cases hz) (by decide) (by decide) jw_1038 (by decide +kernel) (fun q9 => ?_)
      refine jj_astore_n C dL_richest_12 (by decide) rfl ?_
      refine jj_iconst (v := 1) C dL_richest_13 (by decide) ?_
      exact jj_iret C (Or.inr (Or.inl ⟨c_4, c_5, rfl, rfl⟩)) dL_richest_14 (jj_le rfl) (jj_le rfl)
  · rcases O_2 with ⟨c_6, c_7, c_8, rfl⟩ | ⟨c_9, c_10, c_11, rfl⟩
    · refine jj_left ?_
      refine jj_i2l (v := (-1)) C dL_richest_7 (by decide) ?_
      refine jj_last C 0 rfl (vp_in_iff.mpr (by decide)) (g := (vp_updL (fun _ => 0) 0 (-1))) rfl rfl dL_richest_8 ?_
      refine jj_goto (tgt := 15) C dL_richest_9 (by decide) ?_
      refine jj_iconst (v := 0) C dL_richest_15 (by decide) ?_
      exact jj_iret C (Or.inr (Or.inr (Or.inl ⟨c_6, c_7, c_8, rfl, rfl⟩))) dL_richest_16 (jj_le rfl) (jj_le rfl)
    · refine jj_left ?_
      refine jj_i2l (v := 0) C dL_richest_7 (by decide) ?_
      refine jj_last C 0 rfl (vp_in_iff.mpr (by decide)) (g := (vp_updL (fun _ => 0) 0 0)) rfl rfl dL_richest_8 ?_
      refine jj_goto (tgt := 15) C dL_richest_9 (by decide) ?_
      refine jj_iconst (v := 0) C dL_richest_15 (by decide) ?_
      exact jj_iret C (Or.inr (Or.inr (Or.inr ⟨c_9, c_10, c_11, rfl, rfl⟩))) dL_richest_16 (jj_le rfl) (jj_le rfl)


set_option maxHeartbeats 4000000 in
set_option maxRecDepth 100000 in
theorem ct_L_share_1 {l : Launch} (hl : l.stackTraces = false) (D : va_G) (cA : Nat → ClassId) (ak : (Nat → Nat) × (Nat → Nat)) (h0 h1 h2 h3 h4 h5 h6 h7 h8 h9 h10 h11 h12 : Nat) (a0 : Int32) : jj_M l D cA ak yL_share (.codeWith yL_share cL_share 4 (some .int) [(0, 8, 11, 25), (0, 8, 14, 82)]) 9 147 2 12 [(h0, .inr (11, [.ref h4, .int 0, .int (-1), .ref h1, .ref h5, .ref h2, .ref h6, .int 0, .int 0, .ref h7])), (h1, .inr (2, [.int 1, .int 0, .int 0, .int 0, .int 100, .int 0, .int 0, .int 0, .int 0, .int 0, .ref h8, .ref h9, .ref h10, .ref h11])), (h2, .inr (3, [.ref h12, .long 0, .long 0, .long 0, .long 0, .long 0]))] [.ref h0, .int a0, .ref h3] (fun (w : va_W) (r : Option Value) => (a0 < 0 ∧ w = [] ∧ r = some (.int 1)) ∨ (¬ a0 < 0 ∧ 1 ≤ a0 ∧ w = [] ∧ r = some (.int 1)) ∨ (¬ a0 < 0 ∧ ¬ 1 ≤ a0 ∧ w = [] ∧ r = some (.int 2))) jj_noX := by
  refine jj_startW hl (by decide) jw_1285 (jj_le rfl) ?_
  intro p e s m args below meth c A hargs hA C htab hmn
  refine jj_aload_n C dL_share_0 rfl ?_
  refine jj_iconst (v := 0) C dL_share_1 (by decide) ?_
  refine jj_aload_n C dL_share_2 rfl ?_
  refine jj_iload_n C dL_share_3 rfl ?_
  refine jq_callV (rest := [.int 0, .ref h3]) C (ct_X10_share_1 hl D cA ak h0 h1 h2 h4 h5 h6 h7 h8 h9 h10 h11 h12 a0) [0, 1, 2] [] rfl rfl (by decide) (by decide) (by decide) 0 rfl rfl rfl jw_1280 jw_1281 jw_1282 jw_271 jw_571 jn_X10_share rfl (jj_le rfl) (jj_le rfl) (jj_le rfl) (jj_le rfl) (jj_le rfl) dL_share_4 rfl (fun E w1 X_1 => ?_) (fun w1 r O_2 => ?_)
  · rcases X_1 with ⟨rfl, c_3⟩ | ⟨rfl, c_4, c_5⟩ | ⟨rfl, c_6, c_7⟩
    · refine jj_leftY ?_
      refine jj_catch C [] (⟨0, 8, 11, 25⟩ : ExceptionTableEntry) [(⟨0, 8, 14, 82⟩ : ExceptionTableEntry)] (htab.trans rfl) (fun z hz => by cases hz) (by decide) (by decide) jw_1038 (by decide +kernel) (fun q9 => ?_)
      refine jj_astore_n C dL_share_11 (by decide) rfl ?_
      refine jj_iconst (v := 1) C dL_share_12 (by decide) ?_
      exact jj_iret C (Or.inl ⟨c_3, rfl, rfl⟩) dL_share_13 (jj_le rfl) (jj_le rfl)
    · refine jj_leftY ?_
      refine jj_catch C [] (⟨0, 8, 11, 25⟩ : ExceptionTableEntry) [(⟨0, 8, 14, 82⟩ : ExceptionTableEntry)] (htab.trans rfl) (fun z hz => by cases hz) (by decide) (by decide) jw_1038 (by decide +kernel) (fun q9 => ?_)
      refine jj_astore_n C dL_share_11 (by decide) rfl ?_
      refine jj_iconst (v := 1) C dL_share_12 (by decide) ?_
      exact jj_iret C (Or.inr (Or.inl ⟨c_4, c_5, rfl, rfl⟩)) dL_share_13 (jj_le rfl) (jj_le rfl)
    · refine jj_leftY ?_
      refine jj_catch C [(⟨0, 8, 11, 25⟩ : ExceptionTableEntry)] (⟨0, 8, 14, 82⟩ : ExceptionTableEntry) [] (htab.trans rfl) (fun z hz => by rcases List.mem_cons.mp hz with rfl | hz; exact Or.inr ⟨by decide, "java/lang/IndexOutOfBoundsException", jw_1038, by decide +kernel⟩; cases hz) (by decide) (by decide) jw_1284 (by decide +kernel) (fun q9 => ?_)
      refine jj_astore_n C dL_share_14 (by decide) rfl ?_
      refine jj_iconst (v := 2) C dL_share_15 (by decide) ?_
      exact jj_iret C (Or.inr (Or.inr ⟨c_6, c_7, rfl, rfl⟩)) dL_share_16 (jj_le rfl) (jj_le rfl)
  · exact O_2.elim


set_option maxHeartbeats 4000000 in
set_option maxRecDepth 100000 in
theorem ct_L_wouldRedeem_1 {l : Launch} (hl : l.stackTraces = false) (D : va_G) (cA : Nat → ClassId) (ak : (Nat → Nat) × (Nat → Nat)) (h0 h1 h2 h3 h4 h5 h6 h7 h8 h9 h10 h11 : Nat) (a0 : Int32) : jj_M l D cA ak yL_wouldRedeem (.codeWith yL_wouldRedeem cL_wouldRedeem 4 (some .int) [(0, 8, 11, 25)]) 9 144 1 6 [(h0, .inr (11, [.ref h3, .int 0, .int (-1), .ref h1, .ref h4, .ref h5, .ref h6, .int 0, .int 0, .ref h7])), (h1, .inr (2, [.int 1, .int 0, .int 0, .int 0, .int 100, .int 0, .int 0, .int 0, .int 0, .int 0, .ref h8, .ref h9, .ref h10, .ref h11]))] [.ref h0, .int a0, .ref h2] (fun (w : va_W) (r : Option Value) => (a0 < 0 ∧ w = [] ∧ r = some (.int 1)) ∨ (¬ a0 < 0 ∧ w = [] ∧ r = some (.int 1))) jj_noX := by
  refine jj_startW hl (by decide) jw_1313 (jj_le rfl) ?_
  intro p e s m args below meth c A hargs hA C htab hmn
  refine jj_aload_n C dL_wouldRedeem_0 rfl ?_
  refine jj_iconst (v := 0) C dL_wouldRedeem_1 (by decide) ?_
  refine jj_aload_n C dL_wouldRedeem_2 rfl ?_
  refine jj_iload_n C dL_wouldRedeem_3 rfl ?_
  refine jq_callV (rest := [.int 0, .ref h2]) C (ct_X10_wouldRedeem_1 hl D cA ak h0 h1 h3 h4 h5 h6 h7 h8 h9 h10 h11 a0) [0, 1] [] rfl rfl (by decide) (by decide) (by decide) 0 rfl rfl rfl jw_1309 jw_1310 jw_1311 jw_271 jw_573 jn_X10_wouldRedeem rfl (jj_le rfl) (jj_le rfl) (jj_le rfl) (jj_le rfl) (jj_le rfl) dL_wouldRedeem_4 rfl (fun E w1 X_1 => ?_) (fun w1 r O_2 => ?_)
  · rcases X_1 with ⟨rfl, c_3⟩ | ⟨rfl, c_4⟩
    · refine jj_leftY ?_
      refine jj_catch C [] (⟨0, 8, 11, 25⟩ : ExceptionTableEntry) [] (htab.trans rfl) (fun z hz => by cases hz) (by decide) (by decide) jw_1038 (by decide +kernel) (fun q9 => ?_)
      refine jj_astore_n C dL_wouldRedeem_11 (by decide) rfl ?_
      refine jj_iconst (v := 1) C dL_wouldRedeem_12 (by decide) ?_
      exact jj_iret C (Or.inl ⟨c_3, rfl, rfl⟩) dL_wouldRedeem_13 (jj_le rfl) (jj_le rfl)
    · refine jj_leftY ?_
      refine jj_catch C [] (⟨0, 8, 11, 25⟩ : ExceptionTableEntry) [] (htab.trans rfl) (fun z hz => by cases hz) (by decide) (by decide) jw_1038 (by decide +kernel) (fun q9 => ?_)
      refine jj_astore_n C dL_wouldRedeem_11 (by decide) rfl ?_
      refine jj_iconst (v := 1) C dL_wouldRedeem_12 (by decide) ?_
      exact jj_iret C (Or.inr ⟨c_4, rfl, rfl⟩) dL_wouldRedeem_13 (jj_le rfl) (jj_le rfl)
  · exact O_2.elim


set_option maxHeartbeats 4000000 in
set_option maxRecDepth 100000 in
theorem ct_L_dealsUntilDone_1 {l : Launch} (hl : l.stackTraces = false) (D : va_G) (cA : Nat → ClassId) (ak : (Nat → Nat) × (Nat → Nat)) (h0 h1 h2 h3 h4 h5 h6 h7 h8 h9 h10 h11 : Nat) (a0 : Int32) : jj_M l D cA ak yL_dealsUntilDone (.codeWith yL_dealsUntilDone cL_dealsUntilDone 4 (some .int) [(0, 9, 12, 25)]) 9 146 1 6 [(h0, .inr (11, [.ref h3, .int 0, .int (-1), .ref h1, .ref h4, .ref h5, .ref h6, .int 0, .int 0, .ref h7])), (h1, .inr (2, [.int 1, .int 0, .int 0, .int 0, .int 100, .int 0, .int 0, .int 0, .int 0, .int 0, .ref h8, .ref h9, .ref h10, .ref h11]))] [.ref h0, .int a0, .ref h2] (fun (w : va_W) (r : Option Value) => (a0 < 0 ∧ w = [] ∧ r = some (.int 1)) ∨ (¬ a0 < 0 ∧ w = [] ∧ r = some (.int 1))) jj_noX := by
  refine jj_startW hl (by decide) jw_1325 (jj_le rfl) ?_
  intro p e s m args below meth c A hargs hA C htab hmn
  refine jj_aload_n C dL_dealsUntilDone_0 rfl ?_
  refine jj_iconst (v := 0) C dL_dealsUntilDone_1 (by decide) ?_
  refine jj_aload_n C dL_dealsUntilDone_2 rfl ?_
  refine jj_iload_n C dL_dealsUntilDone_3 rfl ?_
  refine jq_callV (rest := [.int 0, .ref h2]) C (ct_X10_dealsUntilDone_1 hl D cA ak h0 h1 h3 h4 h5 h6 h7 h8 h9 h10 h11 a0) [0, 1] [] rfl rfl (by decide) (by decide) (by decide) 0 rfl rfl rfl jw_1321 jw_1322 jw_1323 jw_271 jw_575 jn_X10_dealsUntilDone rfl (jj_le rfl) (jj_le rfl) (jj_le rfl) (jj_le rfl) (jj_le rfl) dL_dealsUntilDone_4 rfl (fun E w1 X_1 => ?_) (fun w1 r O_2 => ?_)
  · rcases X_1 with ⟨rfl, c_3⟩ | ⟨rfl, c_4⟩
    · refine jj_leftY ?_
      refine jj_catch C [] (⟨0, 9, 12, 25⟩ : ExceptionTableEntry) [] (htab.trans rfl) (fun z hz => by cases hz) (by decide) (by decide) jw_1038 (by decide +kernel) (fun q9 => ?_)
      refine jj_astore_n C dL_dealsUntilDone_12 (by decide) rfl ?_
      refine jj_iconst (v := 1) C dL_dealsUntilDone_13 (by decide) ?_
      exact jj_iret C (Or.inl ⟨c_3, rfl, rfl⟩) dL_dealsUntilDone_14 (jj_le rfl) (jj_le rfl)
    · refine jj_leftY ?_
      refine jj_catch C [] (⟨0, 9, 12, 25⟩ : ExceptionTableEntry) [] (htab.trans rfl) (fun z hz => by cases hz) (by decide) (by decide) jw_1038 (by decide +kernel) (fun q9 => ?_)
      refine jj_astore_n C dL_dealsUntilDone_12 (by decide) rfl ?_
      refine jj_iconst (v := 1) C dL_dealsUntilDone_13 (by decide) ?_
      exact jj_iret C (Or.inr ⟨c_4, rfl, rfl⟩) dL_dealsUntilDone_14 (jj_le rfl) (jj_le rfl)
  · exact O_2.elim


set_option maxHeartbeats 4000000 in
set_option maxRecDepth 100000 in
theorem ct_L_feesIf_1 {l : Launch} (hl : l.stackTraces = false) (D : va_G) (cA : Nat → ClassId) (ak : (Nat → Nat) × (Nat → Nat)) (h0 h1 h2 h3 h4 h5 h6 h7 h8 h9 h10 h11 h12 h13 h14 h15 : Nat) (a0 : Int32) : jj_M l D cA ak yL_feesIf (.codeWith yL_feesIf cL_feesIf 4 (some .int) [(0, 8, 11, 19)]) 7 106 1 6 [(h0, .inr (11, [.ref h6, .int 0, .int (-1), .ref h2, .ref h3, .ref h7, .ref h8, .int 0, .int 0, .ref h9])), (h1, .inl (cA 2, 1, .inr (.inl (fun _ => 0)))), (h2, .inr (2, [.int 1, .int 0, .int 0, .int 0, .int 100, .int 0, .int 0, .int 0, .int 0, .int 0, .ref h4, .ref h10, .ref h11, .ref h12])), (h3, .inr (2, [.int 1, .int 0, .int 0, .int 0, .int 100, .int 0, .int 0, .int 0, .int 0, .int 0, .ref h5, .ref h13, .ref h14, .ref h15])), (h4, .inl (cA 2, 6, .inr (.inl (fun _ => 0)))), (h5, .inl (cA 2, 6, .inr (.inl (fun _ => 0))))] [.ref h0, .int a0, .ref h1] (fun (w : va_W) (r : Option Value) => (a0 < (-9000) ∧ w = [(h1, .inl (cA 2, 1, .inr (.inl (fun _ => 0))))] ∧ r = some (.int 1)) ∨ (¬ a0 < (-9000) ∧ ¬ a0 ≤ 9999 ∧ w = [(h1, .inl (cA 2, 1, .inr (.inl (fun _ => 0))))] ∧ r = some (.int 1)) ∨ (¬ a0 < (-9000) ∧ a0 ≤ 9999 ∧ w = [(h1, .inl (cA 2, 1, .inr (.inl (vp_updL (fun _ => 0) 0 0))))] ∧ r = some (.int 0))) jj_noX := by
  refine jj_startW hl (by decide) jw_1337 (jj_le rfl) ?_
  intro p e s m args below meth c A hargs hA C htab hmn
  refine jj_aload_n C dL_feesIf_0 rfl ?_
  refine jj_iconst (v := 0) C dL_feesIf_1 (by decide) ?_
  refine jj_aload_n C dL_feesIf_2 rfl ?_
  refine jj_iload_n C dL_feesIf_3 rfl ?_
  refine jq_callV (rest := [.int 0, .ref h1]) C (ct_X10_feesIf_1 hl D cA ak h0 h2 h3 h4 h5 h6 h7 h8 h9 h10 h11 h12 h13 h14 h15 a0) [0, 2, 3, 4, 5] [1] rfl rfl (by decide) (by decide) (by decide) 0 rfl rfl rfl jw_1333 jw_1334 jw_1335 jw_271 jw_577 jn_X10_feesIf rfl (jj_le rfl) (jj_le rfl) (jj_le rfl) (jj_le rfl) (jj_le rfl) dL_feesIf_4 rfl (fun E w1 X_1 => ?_) (fun w1 r O_2 => ?_)
  · rcases X_1 with ⟨rfl, c_3⟩ | ⟨rfl, c_4, c_5⟩
    · refine jj_leftY ?_
      refine jj_catch C [] (⟨0, 8, 11, 19⟩ : ExceptionTableEntry) [] (htab.trans rfl) (fun z hz => by cases hz) (by decide) (by decide) jw_1001 (by decide +kernel) (fun q9 => ?_)
      refine jj_astore_n C dL_feesIf_11 (by decide) rfl ?_
      refine jj_iconst (v := 1) C dL_feesIf_12 (by decide) ?_
      exact jj_iret C (Or.inl ⟨c_3, rfl, rfl⟩) dL_feesIf_13 (jj_le rfl) (jj_le rfl)
    · refine jj_leftY ?_
      refine jj_catch C [] (⟨0, 8, 11, 19⟩ : ExceptionTableEntry) [] (htab.trans rfl) (fun z hz => by cases hz) (by decide) (by decide) jw_1001 (by decide +kernel) (fun q9 => ?_)
      refine jj_astore_n C dL_feesIf_11 (by decide) rfl ?_
      refine jj_iconst (v := 1) C dL_feesIf_12 (by decide) ?_
      exact jj_iret C (Or.inr (Or.inl ⟨c_4, c_5, rfl, rfl⟩)) dL_feesIf_13 (jj_le rfl) (jj_le rfl)
  · obtain ⟨c_6, c_7, rfl⟩ := O_2
    refine jj_left ?_
    refine jj_last C 0 rfl (vp_in_iff.mpr (by decide)) (g := (vp_updL (fun _ => 0) 0 0)) rfl rfl dL_feesIf_7 ?_
    refine jj_goto (tgt := 14) C dL_feesIf_8 (by decide) ?_
    refine jj_iconst (v := 0) C dL_feesIf_14 (by decide) ?_
    exact jj_iret C (Or.inr (Or.inr ⟨c_6, c_7, rfl, rfl⟩)) dL_feesIf_15 (jj_le rfl) (jj_le rfl)


set_option maxHeartbeats 4000000 in
set_option maxRecDepth 100000 in
theorem ct_L_breakEven_1 {l : Launch} (hl : l.stackTraces = false) (D : va_G) (cA : Nat → ClassId) (ak : (Nat → Nat) × (Nat → Nat)) (h0 h1 h2 h3 h4 h5 h6 h7 h8 h9 h10 h11 : Nat) (a0 : Int32) : jj_M l D cA ak yL_breakEven (.codeWith yL_breakEven cL_breakEven 4 (some .int) [(0, 9, 12, 25), (0, 9, 15, 96)]) 9 150 1 6 [(h0, .inr (11, [.ref h3, .int 0, .int (-1), .ref h1, .ref h4, .ref h5, .ref h6, .int 0, .int 0, .ref h7])), (h1, .inr (2, [.int 1, .int 0, .int 0, .int 0, .int 100, .int 0, .int 0, .int 0, .int 0, .int 0, .ref h8, .ref h9, .ref h10, .ref h11]))] [.ref h0, .int a0, .ref h2] (fun (w : va_W) (r : Option Value) => (w = [] ∧ r = some (.int 1))) jj_noX := by
  refine jj_startW hl (by decide) jw_1349 (jj_le rfl) ?_
  intro p e s m args below meth c A hargs hA C htab hmn
  refine jj_aload_n C dL_breakEven_0 rfl ?_
  refine jj_iconst (v := 0) C dL_breakEven_1 (by decide) ?_
  refine jj_aload_n C dL_breakEven_2 rfl ?_
  refine jj_iload_n C dL_breakEven_3 rfl ?_
  refine jq_callV (rest := [.int 0, .ref h2]) C (ct_X10_breakEven_1 hl D cA ak h0 h1 h3 h4 h5 h6 h7 h8 h9 h10 h11 a0) [0, 1] [] rfl rfl (by decide) (by decide) (by decide) 0 rfl rfl rfl jw_1345 jw_1346 jw_1347 jw_271 jw_584 jn_X10_breakEven rfl (jj_le rfl) (jj_le rfl) (jj_le rfl) (jj_le rfl) (jj_le rfl) dL_breakEven_4 rfl (fun E w1 X_1 => ?_) (fun w1 r O_2 => ?_)
  · obtain rfl := X_1
    refine jj_leftY ?_
    refine jj_catch C [] (⟨0, 9, 12, 25⟩ : ExceptionTableEntry) [(⟨0, 9, 15, 96⟩ : ExceptionTableEntry)] (htab.trans rfl) (fun z hz => by cases hz) (by decide) (by decide) jw_1038 (by decide +kernel) (fun q9 => ?_)
    refine jj_astore_n C dL_breakEven_12 (by decide) rfl ?_
    refine jj_iconst (v := 1) C dL_breakEven_13 (by decide) ?_
    exact jj_iret C ⟨rfl, rfl⟩ dL_breakEven_14 (jj_le rfl) (jj_le rfl)
  · exact O_2.elim


set_option maxHeartbeats 4000000 in
set_option maxRecDepth 100000 in
theorem ct_L_rateFor_1 {l : Launch} (hl : l.stackTraces = false) (D : va_G) (cA : Nat → ClassId) (ak : (Nat → Nat) × (Nat → Nat)) (h0 h1 h2 h3 h4 h5 h6 h7 h8 h9 h10 h11 h12 : Nat) (a0 : Int32) (b1 : Int64) : jj_M l D cA ak yL_rateFor (.codeWith yL_rateFor cL_rateFor 6 (some .int) [(0, 11, 14, 25), (0, 11, 18, 96)]) 9 147 2 12 [(h0, .inr (11, [.ref h4, .int 0, .int (-1), .ref h2, .ref h5, .ref h3, .ref h6, .int 0, .int 0, .ref h7])), (h1, .inl (cA 2, 1, .inr (.inl (fun _ => 0)))), (h2, .inr (2, [.int 1, .int 0, .int 0, .int 0, .int 100, .int 0, .int 0, .int 0, .int 0, .int 0, .ref h8, .ref h9, .ref h10, .ref h11])), (h3, .inr (3, [.ref h12, .long 0, .long 0, .long 0, .long 0, .long 0]))] [.ref h0, .int a0, .long b1, .ref h1] (fun (w : va_W) (r : Option Value) => (a0 < 0 ∧ w = [(h1, .inl (cA 2, 1, .inr (.inl (fun _ => 0))))] ∧ r = some (.int 1)) ∨ (¬ a0 < 0 ∧ 1 ≤ a0 ∧ w = [(h1, .inl (cA 2, 1, .inr (.inl (fun _ => 0))))] ∧ r = some (.int 1)) ∨ (¬ a0 < 0 ∧ ¬ 1 ≤ a0 ∧ ¬ b1 ≤ 0 ∧ w = [(h1, .inl (cA 2, 1, .inr (.inl (fun _ => 0))))] ∧ r = some (.int 2)) ∨ (¬ a0 < 0 ∧ ¬ 1 ≤ a0 ∧ b1 ≤ 0 ∧ w = [(h1, .inl (cA 2, 1, .inr (.inl (vp_updL (fun _ => 0) 0 (-9000)))))] ∧ r = some (.int 0))) jj_noX := by
  refine jj_startW hl (by decide) jw_1363 (jj_le rfl) ?_
  intro p e s m args below meth c A hargs hA C htab hmn
  refine jj_aload C dL_rateFor_0 rfl ?_
  refine jj_iconst (v := 0) C dL_rateFor_2 (by decide) ?_
  refine jj_aload_n C dL_rateFor_3 rfl ?_
  refine jj_iload_n C dL_rateFor_4 rfl ?_
  refine jj_lload_n C dL_rateFor_5 rfl ?_
  refine jq_callV (rest := [.int 0, .ref h1]) C (ct_X10_rateFor_1 hl D cA ak h0 h2 h3 h4 h5 h6 h7 h8 h9 h10 h11 h12 a0 b1) [0, 2, 3] [1] rfl rfl (by decide) (by decide) (by decide) 0 rfl rfl rfl jw_1358 jw_1359 jw_1360 jw_271 jw_602 jn_X10_rateFor rfl (jj_le rfl) (jj_le rfl) (jj_le rfl) (jj_le rfl) (jj_le rfl) dL_rateFor_6 rfl (fun E w1 X_1 => ?_) (fun w1 r O_2 => ?_)
  · rcases X_1 with ⟨rfl, c_3⟩ | ⟨rfl, c_4, c_5⟩ | ⟨rfl, c_6, c_7, c_8⟩
    · refine jj_leftY ?_
      refine jj_catch C [] (⟨0, 11, 14, 25⟩ : ExceptionTableEntry) [(⟨0, 11, 18, 96⟩ : ExceptionTableEntry)] (htab.trans rfl) (fun z hz => by cases hz) (by decide) (by decide) jw_1038 (by decide +kernel) (fun q9 => ?_)
      refine jj_astore C dL_rateFor_14 (by decide) rfl ?_
      refine jj_iconst (v := 1) C dL_rateFor_16 (by decide) ?_
      exact jj_iret C (Or.inl ⟨c_3, rfl, rfl⟩) dL_rateFor_17 (jj_le rfl) (jj_le rfl)
    · refine jj_leftY ?_
      refine jj_catch C [] (⟨0, 11, 14, 25⟩ : ExceptionTableEntry) [(⟨0, 11, 18, 96⟩ : ExceptionTableEntry)] (htab.trans rfl) (fun z hz => by cases hz) (by decide) (by decide) jw_1038 (by decide +kernel) (fun q9 => ?_)
      refine jj_astore C dL_rateFor_14 (by decide) rfl ?_
      refine jj_iconst (v := 1) C dL_rateFor_16 (by decide) ?_
      exact jj_iret C (Or.inr (Or.inl ⟨c_4, c_5, rfl, rfl⟩)) dL_rateFor_17 (jj_le rfl) (jj_le rfl)
    · refine jj_leftY ?_
      refine jj_catch C [(⟨0, 11, 14, 25⟩ : ExceptionTableEntry)] (⟨0, 11, 18, 96⟩ : ExceptionTableEntry) [] (htab.trans rfl) (fun z hz => by rcases List.mem_cons.mp hz with rfl | hz; exact Or.inr ⟨by decide, "java/lang/IndexOutOfBoundsException", jw_1038, by decide +kernel⟩; cases hz) (by decide) (by decide) jw_1362 (by decide +kernel) (fun q9 => ?_)
      refine jj_astore C dL_rateFor_18 (by decide) rfl ?_
      refine jj_iconst (v := 2) C dL_rateFor_20 (by decide) ?_
      exact jj_iret C (Or.inr (Or.inr (Or.inl ⟨c_6, c_7, c_8, rfl, rfl⟩))) dL_rateFor_21 (jj_le rfl) (jj_le rfl)
  · obtain ⟨c_9, c_10, c_11, rfl⟩ := O_2
    refine jj_left ?_
    refine jj_i2l (v := (-9000)) C dL_rateFor_9 (by decide) ?_
    refine jj_last C 0 rfl (vp_in_iff.mpr (by decide)) (g := (vp_updL (fun _ => 0) 0 (-9000))) rfl rfl dL_rateFor_10 ?_
    refine jj_goto (tgt := 22) C dL_rateFor_11 (by decide) ?_
    refine jj_iconst (v := 0) C dL_rateFor_22 (by decide) ?_
    exact jj_iret C (Or.inr (Or.inr (Or.inr ⟨c_9, c_10, c_11, rfl, rfl⟩))) dL_rateFor_23 (jj_le rfl) (jj_le rfl)


set_option maxHeartbeats 4000000 in
set_option maxRecDepth 100000 in
theorem ct_L_daysUntil_1 {l : Launch} (hl : l.stackTraces = false) (D : va_G) (cA : Nat → ClassId) (ak : (Nat → Nat) × (Nat → Nat)) (h0 h1 h2 h3 h4 h5 h6 h7 h8 h9 h10 h11 h12 h13 h14 h15 : Nat) (b0 : Int64) : jj_M l D cA ak yL_daysUntil (.codeWith yL_daysUntil cL_daysUntil 5 (some .int) [(0, 9, 12, 19)]) 7 105 1 6 [(h0, .inr (11, [.ref h6, .int 0, .int (-1), .ref h2, .ref h3, .ref h7, .ref h8, .int 0, .int 0, .ref h9])), (h1, .inl (cA 2, 1, .inr (.inl (fun _ => 0)))), (h2, .inr (2, [.int 1, .int 0, .int 0, .int 0, .int 100, .int 0, .int 0, .int 0, .int 0, .int 0, .ref h4, .ref h10, .ref h11, .ref h12])), (h3, .inr (2, [.int 1, .int 0, .int 0, .int 0, .int 100, .int 0, .int 0, .int 0, .int 0, .int 0, .ref h5, .ref h13, .ref h14, .ref h15])), (h4, .inl (cA 2, 6, .inr (.inl (fun _ => 0)))), (h5, .inl (cA 2, 6, .inr (.inl (fun _ => 0))))] [.ref h0, .long b0, .ref h1] (fun (w : va_W) (r : Option Value) => (¬ 0 ≤ b0 ∧ w = [(h1, .inl (cA 2, 1, .inr (.inl (fun _ => 0))))] ∧ r = some (.int 1)) ∨ (0 ≤ b0 ∧ w = [(h1, .inl (cA 2, 1, .inr (.inl (vp_updL (fun _ => 0) 0 0))))] ∧ r = some (.int 0))) jj_noX := by
  refine jj_startW hl (by decide) jw_1375 (jj_le rfl) ?_
  intro p e s m args below meth c A hargs hA C htab hmn
  refine jj_aload_n C dL_daysUntil_0 rfl ?_
  refine jj_iconst (v := 0) C dL_daysUntil_1 (by decide) ?_
  refine jj_aload_n C dL_daysUntil_2 rfl ?_
  refine jj_lload_n C dL_daysUntil_3 rfl ?_
  refine jq_callV (rest := [.int 0, .ref h1]) C (ct_X10_daysUntil_1 hl D cA ak h0 h2 h3 h4 h5 h6 h7 h8 h9 h10 h11 h12 h13 h14 h15 b0) [0, 2, 3, 4, 5] [1] rfl rfl (by decide) (by decide) (by decide) 0 rfl rfl rfl jw_1371 jw_1372 jw_1373 jw_271 jw_614 jn_X10_daysUntil rfl (jj_le rfl) (jj_le rfl) (jj_le rfl) (jj_le rfl) (jj_le rfl) dL_daysUntil_4 rfl (fun E w1 X_1 => ?_) (fun w1 r O_2 => ?_)
  · obtain ⟨rfl, c_3⟩ := X_1
    refine jj_leftY ?_
    refine jj_catch C [] (⟨0, 9, 12, 19⟩ : ExceptionTableEntry) [] (htab.trans rfl) (fun z hz => by cases hz) (by decide) (by decide) jw_1001 (by decide +kernel) (fun q9 => ?_)
    refine jj_astore C dL_daysUntil_12 (by decide) rfl ?_
    refine jj_iconst (v := 1) C dL_daysUntil_14 (by decide) ?_
    exact jj_iret C (Or.inl ⟨c_3, rfl, rfl⟩) dL_daysUntil_15 (jj_le rfl) (jj_le rfl)
  · obtain ⟨c_4, rfl⟩ := O_2
    refine jj_left ?_
    refine jj_i2l (v := 0) C dL_daysUntil_7 (by decide) ?_
    refine jj_last C 0 rfl (vp_in_iff.mpr (by decide)) (g := (vp_updL (fun _ => 0) 0 0)) rfl rfl dL_daysUntil_8 ?_
    refine jj_goto (tgt := 16) C dL_daysUntil_9 (by decide) ?_
    refine jj_iconst (v := 0) C dL_daysUntil_16 (by decide) ?_
    exact jj_iret C (Or.inr ⟨c_4, rfl, rfl⟩) dL_daysUntil_17 (jj_le rfl) (jj_le rfl)


set_option maxHeartbeats 4000000 in
set_option maxRecDepth 100000 in
theorem ct_L_bestGate_1 {l : Launch} (hl : l.stackTraces = false) (D : va_G) (cA : Nat → ClassId) (ak : (Nat → Nat) × (Nat → Nat)) (h0 h1 h2 h3 h4 h5 h6 h7 h8 h9 h10 h11 : Nat) (a0 : Int32) : jj_M l D cA ak yL_bestGate (.codeWith yL_bestGate cL_bestGate 4 (some .int) [(0, 9, 12, 25)]) 9 147 1 6 [(h0, .inr (11, [.ref h3, .int 0, .int (-1), .ref h1, .ref h4, .ref h5, .ref h6, .int 0, .int 0, .ref h7])), (h1, .inr (2, [.int 1, .int 0, .int 0, .int 0, .int 100, .int 0, .int 0, .int 0, .int 0, .int 0, .ref h8, .ref h9, .ref h10, .ref h11]))] [.ref h0, .int a0, .ref h2] (fun (w : va_W) (r : Option Value) => (a0 < 0 ∧ w = [] ∧ r = some (.int 1)) ∨ (¬ a0 < 0 ∧ w = [] ∧ r = some (.int 1))) jj_noX := by
  refine jj_startW hl (by decide) jw_1403 (jj_le rfl) ?_
  intro p e s m args below meth c A hargs hA C htab hmn
  refine jj_aload_n C dL_bestGate_0 rfl ?_
  refine jj_iconst (v := 0) C dL_bestGate_1 (by decide) ?_
  refine jj_aload_n C dL_bestGate_2 rfl ?_
  refine jj_iload_n C dL_bestGate_3 rfl ?_
  refine jq_callV (rest := [.int 0, .ref h2]) C (ct_X10_bestGate_1 hl D cA ak h0 h1 h3 h4 h5 h6 h7 h8 h9 h10 h11 a0) [0, 1] [] rfl rfl (by decide) (by decide) (by decide) 0 rfl rfl rfl jw_1399 jw_1400 jw_1401 jw_271 jw_621 jn_X10_bestGate rfl (jj_le rfl) (jj_le rfl) (jj_le rfl) (jj_le rfl) (jj_le rfl) dL_bestGate_4 rfl (fun E w1 X_1 => ?_) (fun w1 r O_2 => ?_)
  · rcases X_1 with ⟨rfl, c_3⟩ | ⟨rfl, c_4⟩
    · refine jj_leftY ?_
      refine jj_catch C [] (⟨0, 9, 12, 25⟩ : ExceptionTableEntry) [] (htab.trans rfl) (fun z hz => by cases hz) (by decide) (by decide) jw_1038 (by decide +kernel) (fun q9 => ?_)
      refine jj_astore_n C dL_bestGate_12 (by decide) rfl ?_
      refine jj_iconst (v := 1) C dL_bestGate_13 (by decide) ?_
      exact jj_iret C (Or.inl ⟨c_3, rfl, rfl⟩) dL_bestGate_14 (jj_le rfl) (jj_le rfl)
    · refine jj_leftY ?_
      refine jj_catch C [] (⟨0, 9, 12, 25⟩ : ExceptionTableEntry) [] (htab.trans rfl) (fun z hz => by cases hz) (by decide) (by decide) jw_1038 (by decide +kernel) (fun q9 => ?_)
      refine jj_astore_n C dL_bestGate_12 (by decide) rfl ?_
      refine jj_iconst (v := 1) C dL_bestGate_13 (by decide) ?_
      exact jj_iret C (Or.inr ⟨c_4, rfl, rfl⟩) dL_bestGate_14 (jj_le rfl) (jj_le rfl)
  · exact O_2.elim


set_option maxHeartbeats 4000000 in
set_option maxRecDepth 100000 in
theorem ct_L_reportByte_1 {l : Launch} (hl : l.stackTraces = false) (D : va_G) (cA : Nat → ClassId) (ak : (Nat → Nat) × (Nat → Nat)) (h0 h1 h2 h3 h4 h5 h6 h7 h8 h9 : Nat) (a0 : Int32) : jj_M l D cA ak yL_reportByte (.codeWith yL_reportByte cL_reportByte 4 (some .int) [(0, 9, 12, 25)]) 7 103 1 6 [(h0, .inr (11, [.ref h3, .int 0, .int (-1), .ref h4, .ref h5, .ref h6, .ref h7, .int 0, .int 0, .ref h1])), (h1, .inr (6, [.ref h8, .int 0, .ref h9]))] [.ref h0, .int a0, .ref h2] (fun (w : va_W) (r : Option Value) => (a0 < 0 ∧ w = [] ∧ r = some (.int 1)) ∨ (¬ a0 < 0 ∧ w = [] ∧ r = some (.int 1))) jj_noX := by
  refine jj_startW hl (by decide) jw_1423 (jj_le rfl) ?_
  intro p e s m args below meth c A hargs hA C htab hmn
  refine jj_aload_n C dL_reportByte_0 rfl ?_
  refine jj_iconst (v := 0) C dL_reportByte_1 (by decide) ?_
  refine jj_aload_n C dL_reportByte_2 rfl ?_
  refine jj_iload_n C dL_reportByte_3 rfl ?_
  refine jq_callV (rest := [.int 0, .ref h2]) C (ct_X10_reportByte_1 hl D cA ak h0 h1 h3 h4 h5 h6 h7 h8 h9 a0) [0, 1] [] rfl rfl (by decide) (by decide) (by decide) 0 rfl rfl rfl jw_1419 jw_1420 jw_1421 jw_271 jw_624 jn_X10_reportByte rfl (jj_le rfl) (jj_le rfl) (jj_le rfl) (jj_le rfl) (jj_le rfl) dL_reportByte_4 rfl (fun E w1 X_1 => ?_) (fun w1 r O_2 => ?_)
  · rcases X_1 with ⟨rfl, c_3⟩ | ⟨rfl, c_4⟩
    · refine jj_leftY ?_
      refine jj_catch C [] (⟨0, 9, 12, 25⟩ : ExceptionTableEntry) [] (htab.trans rfl) (fun z hz => by cases hz) (by decide) (by decide) jw_1038 (by decide +kernel) (fun q9 => ?_)
      refine jj_astore_n C dL_reportByte_12 (by decide) rfl ?_
      refine jj_iconst (v := 1) C dL_reportByte_13 (by decide) ?_
      exact jj_iret C (Or.inl ⟨c_3, rfl, rfl⟩) dL_reportByte_14 (jj_le rfl) (jj_le rfl)
    · refine jj_leftY ?_
      refine jj_catch C [] (⟨0, 9, 12, 25⟩ : ExceptionTableEntry) [] (htab.trans rfl) (fun z hz => by cases hz) (by decide) (by decide) jw_1038 (by decide +kernel) (fun q9 => ?_)
      refine jj_astore_n C dL_reportByte_12 (by decide) rfl ?_
      refine jj_iconst (v := 1) C dL_reportByte_13 (by decide) ?_
      exact jj_iret C (Or.inr ⟨c_4, rfl, rfl⟩) dL_reportByte_14 (jj_le rfl) (jj_le rfl)
  · exact O_2.elim


set_option maxHeartbeats 4000000 in
set_option maxRecDepth 100000 in
theorem ct_L_undo_1 {l : Launch} (hl : l.stackTraces = false) (D : va_G) (cA : Nat → ClassId) (ak : (Nat → Nat) × (Nat → Nat)) (h0 h1 h2 h3 h4 h5 h6 h7 : Nat) : jj_M l D cA ak yL_undo (.codeWith yL_undo cL_undo 3 (some .int) [(0, 8, 11, 13)]) 7 102 1 6 [(h0, .inr (11, [.ref h2, .int 0, .int (-1), .ref h3, .ref h4, .ref h5, .ref h6, .int 0, .int 0, .ref h7]))] [.ref h0, .ref h1] (fun (w : va_W) (r : Option Value) => (w = [] ∧ r = some (.int 1))) jj_noX := by
  refine jj_startW hl (by decide) jw_1435 (jj_le rfl) ?_
  intro p e s m args below meth c A hargs hA C htab hmn
  refine jj_aload_n C dL_undo_0 rfl ?_
  refine jj_iconst (v := 0) C dL_undo_1 (by decide) ?_
  refine jj_aload_n C dL_undo_2 rfl ?_
  refine jq_callV (rest := [.int 0, .ref h1]) C (ct_X10_undo_1 hl D cA ak h0 h2 h3 h4 h5 h6 h7) [0] [] rfl rfl (by decide) (by decide) (by decide) 0 rfl rfl rfl jw_1431 jw_1432 jw_1433 jw_271 jw_627 jn_X10_undo rfl (jj_le rfl) (jj_le rfl) (jj_le rfl) (jj_le rfl) (jj_le rfl) dL_undo_3 rfl (fun E w1 X_1 => ?_) (fun w1 r O_2 => ?_)
  · obtain rfl := X_1
    refine jj_leftY ?_
    refine jj_catch C [] (⟨0, 8, 11, 13⟩ : ExceptionTableEntry) [] (htab.trans rfl) (fun z hz => by cases hz) (by decide) (by decide) jw_1051 (by decide +kernel) (fun q9 => ?_)
    refine jj_astore_n C dL_undo_11 (by decide) rfl ?_
    refine jj_iconst (v := 1) C dL_undo_12 (by decide) ?_
    exact jj_iret C ⟨rfl, rfl⟩ dL_undo_13 (jj_le rfl) (jj_le rfl)
  · exact O_2.elim


