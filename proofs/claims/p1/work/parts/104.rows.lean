set_option maxHeartbeats 4000000 in
set_option maxRecDepth 100000 in
theorem ct_X10_count_1 {l : Launch} (hl : l.stackTraces = false) (D : va_G) (cA : Nat → ClassId) (ak : (Nat → Nat) × (Nat → Nat)) (h0 h1 h2 h3 h4 h5 h6 h7 h8 h9 h10 : Nat) (a0 : Int32) : jj_M l D cA ak yX10_count (.code yX10_count cX10_count 2 (some .int)) 6 82 1 6 [(h0, .inr (11, [.ref h2, .int 0, .int (-1), .ref h1, .ref h3, .ref h4, .ref h5, .int 0, .int 0, .ref h6])), (h1, .inr (2, [.int 1, .int 0, .int 0, .int 0, .int 100, .int 0, .int 0, .int 0, .int 0, .int 0, .ref h7, .ref h8, .ref h9, .ref h10]))] [.ref h0, .int a0] (fun (w : va_W) (r : Option Value) => (a0 = 0 ∧ r = some (.int 1)) ∨ (¬ a0 = 0 ∧ a0 = 1 ∧ r = some (.int 0)) ∨ (¬ a0 = 0 ∧ ¬ a0 = 1 ∧ a0 = 2 ∧ r = some (.int 0)) ∨ (¬ a0 = 0 ∧ ¬ a0 = 1 ∧ ¬ a0 = 2 ∧ a0 = 3 ∧ r = some (.int 0)) ∨ (¬ a0 = 0 ∧ ¬ a0 = 1 ∧ ¬ a0 = 2 ∧ ¬ a0 = 3 ∧ a0 = 4 ∧ r = some (.int 100)) ∨ (¬ a0 = 0 ∧ ¬ a0 = 1 ∧ ¬ a0 = 2 ∧ ¬ a0 = 3 ∧ ¬ a0 = 4 ∧ a0 = 5 ∧ r = some (.int 0)) ∨ (¬ a0 = 0 ∧ ¬ a0 = 1 ∧ ¬ a0 = 2 ∧ ¬ a0 = 3 ∧ ¬ a0 = 4 ∧ ¬ a0 = 5 ∧ a0 = 6 ∧ r = some (.int 0)) ∨ (¬ a0 = 0 ∧ ¬ a0 = 1 ∧ ¬ a0 = 2 ∧ ¬ a0 = 3 ∧ ¬ a0 = 4 ∧ ¬ a0 = 5 ∧ ¬ a0 = 6 ∧ a0 = 7 ∧ r = some (.int 0)) ∨ (¬ a0 = 0 ∧ ¬ a0 = 1 ∧ ¬ a0 = 2 ∧ ¬ a0 = 3 ∧ ¬ a0 = 4 ∧ ¬ a0 = 5 ∧ ¬ a0 = 6 ∧ ¬ a0 = 7 ∧ a0 = 8 ∧ r = some (.int 0)) ∨ (¬ a0 = 0 ∧ ¬ a0 = 1 ∧ ¬ a0 = 2 ∧ ¬ a0 = 3 ∧ ¬ a0 = 4 ∧ ¬ a0 = 5 ∧ ¬ a0 = 6 ∧ ¬ a0 = 7 ∧ ¬ a0 = 8 ∧ a0 = 9 ∧ r = some (.int 0))) (fun (E : String) (w : va_W) => (E = "java/lang/IllegalArgumentException" ∧ ¬ a0 = 0 ∧ ¬ a0 = 1 ∧ ¬ a0 = 2 ∧ ¬ a0 = 3 ∧ ¬ a0 = 4 ∧ ¬ a0 = 5 ∧ ¬ a0 = 6 ∧ ¬ a0 = 7 ∧ ¬ a0 = 8 ∧ ¬ a0 = 9)) := by
  refine jj_start hl (by decide) jw_480 (jj_le rfl) ?_
  intro p e s m args below meth c A hargs hA C hex hmn
  refine jj_iload_n C dX10_count_0 rfl ?_
  rcases jj_em (a0 = 0) with c_1 | c_1
  · refine jj_tableIn (tgt := 56) C dX10_count_1 (by rw [c_1]; decide) (by rw [c_1]; decide) (by rw [c_1]; rfl) (by decide) ?_
    refine jj_aload_n C dX10_count_56 rfl ?_
    refine jj_get C jk_11 3 (by decide) jw_135 0 rfl rfl dX10_count_57 ?_
    refine jj_get C jk_2 0 (by decide) jw_472 1 rfl rfl dX10_count_60 ?_
    exact jj_iret C (Or.inl ⟨c_1, rfl⟩) dX10_count_63 (jj_le rfl) (jj_le rfl)
  rcases jj_em (a0 = 1) with c_2 | c_2
  · refine jj_tableIn (tgt := 64) C dX10_count_1 (by rw [c_2]; decide) (by rw [c_2]; decide) (by rw [c_2]; rfl) (by decide) ?_
    refine jj_aload_n C dX10_count_64 rfl ?_
    refine jj_get C jk_11 3 (by decide) jw_135 0 rfl rfl dX10_count_65 ?_
    refine jj_get C jk_2 1 (by decide) jw_473 1 rfl rfl dX10_count_68 ?_
    exact jj_iret C (Or.inr (Or.inl ⟨c_1, c_2, rfl⟩)) dX10_count_71 (jj_le rfl) (jj_le rfl)
  rcases jj_em (a0 = 2) with c_3 | c_3
  · refine jj_tableIn (tgt := 72) C dX10_count_1 (by rw [c_3]; decide) (by rw [c_3]; decide) (by rw [c_3]; rfl) (by decide) ?_
    refine jj_aload_n C dX10_count_72 rfl ?_
    refine jj_get C jk_11 3 (by decide) jw_135 0 rfl rfl dX10_count_73 ?_
    refine jj_get C jk_2 2 (by decide) jw_474 1 rfl rfl dX10_count_76 ?_
    exact jj_iret C (Or.inr (Or.inr (Or.inl ⟨c_1, c_2, c_3, rfl⟩))) dX10_count_79 (jj_le rfl) (jj_le rfl)
  rcases jj_em (a0 = 3) with c_4 | c_4
  · refine jj_tableIn (tgt := 80) C dX10_count_1 (by rw [c_4]; decide) (by rw [c_4]; decide) (by rw [c_4]; rfl) (by decide) ?_
    refine jj_aload_n C dX10_count_80 rfl ?_
    refine jj_get C jk_11 3 (by decide) jw_135 0 rfl rfl dX10_count_81 ?_
    refine jj_get C jk_2 3 (by decide) jw_475 1 rfl rfl dX10_count_84 ?_
    exact jj_iret C (Or.inr (Or.inr (Or.inr (Or.inl ⟨c_1, c_2, c_3, c_4, rfl⟩)))) dX10_count_87 (jj_le rfl) (jj_le rfl)
  rcases jj_em (a0 = 4) with c_5 | c_5
  · refine jj_tableIn (tgt := 88) C dX10_count_1 (by rw [c_5]; decide) (by rw [c_5]; decide) (by rw [c_5]; rfl) (by decide) ?_
    refine jj_aload_n C dX10_count_88 rfl ?_
    refine jj_get C jk_11 3 (by decide) jw_135 0 rfl rfl dX10_count_89 ?_
    refine jj_get C jk_2 4 (by decide) jw_469 1 rfl rfl dX10_count_92 ?_
    exact jj_iret C (Or.inr (Or.inr (Or.inr (Or.inr (Or.inl ⟨c_1, c_2, c_3, c_4, c_5, rfl⟩))))) dX10_count_95 (jj_le rfl) (jj_le rfl)
  rcases jj_em (a0 = 5) with c_6 | c_6
  · refine jj_tableIn (tgt := 96) C dX10_count_1 (by rw [c_6]; decide) (by rw [c_6]; decide) (by rw [c_6]; rfl) (by decide) ?_
    refine jj_aload_n C dX10_count_96 rfl ?_
    refine jj_get C jk_11 3 (by decide) jw_135 0 rfl rfl dX10_count_97 ?_
    refine jj_get C jk_2 5 (by decide) jw_476 1 rfl rfl dX10_count_100 ?_
    exact jj_iret C (Or.inr (Or.inr (Or.inr (Or.inr (Or.inr (Or.inl ⟨c_1, c_2, c_3, c_4, c_5, c_6, rfl⟩)))))) dX10_count_103 (jj_le rfl) (jj_le rfl)
  rcases jj_em (a0 = 6) with c_7 | c_7
  · refine jj_tableIn (tgt := 104) C dX10_count_1 (by rw [c_7]; decide) (by rw [c_7]; decide) (by rw [c_7]; rfl) (by decide) ?_
    refine jj_aload_n C dX10_count_104 rfl ?_
    refine jj_get C jk_11 3 (by decide) jw_135 0 rfl rfl dX10_count_105 ?_
    refine jj_get C jk_2 7 (by decide) jw_477 1 rfl rfl dX10_count_108 ?_
    exact jj_iret C (Or.inr (Or.inr (Or.inr (Or.inr (Or.inr (Or.inr (Or.inl ⟨c_1, c_2, c_3, c_4, c_5, c_6, c_7, rfl⟩))))))) dX10_count_111 (jj_le rfl) (jj_le rfl)
  rcases jj_em (a0 = 7) with c_8 | c_8
  · refine jj_tableIn (tgt := 112) C dX10_count_1 (by rw [c_8]; decide) (by rw [c_8]; decide) (by rw [c_8]; rfl) (by decide) ?_
    refine jj_aload_n C dX10_count_112 rfl ?_
    refine jj_get C jk_11 3 (by decide) jw_135 0 rfl rfl dX10_count_113 ?_
    refine jj_get C jk_2 8 (by decide) jw_478 1 rfl rfl dX10_count_116 ?_
    exact jj_iret C (Or.inr (Or.inr (Or.inr (Or.inr (Or.inr (Or.inr (Or.inr (Or.inl ⟨c_1, c_2, c_3, c_4, c_5, c_6, c_7, c_8, rfl⟩)))))))) dX10_count_119 (jj_le rfl) (jj_le rfl)
  rcases jj_em (a0 = 8) with c_9 | c_9
  · refine jj_tableIn (tgt := 120) C dX10_count_1 (by rw [c_9]; decide) (by rw [c_9]; decide) (by rw [c_9]; rfl) (by decide) ?_
    refine jj_aload_n C dX10_count_120 rfl ?_
    refine jj_get C jk_11 3 (by decide) jw_135 0 rfl rfl dX10_count_121 ?_
    refine jj_get C jk_2 9 (by decide) jw_391 1 rfl rfl dX10_count_124 ?_
    exact jj_iret C (Or.inr (Or.inr (Or.inr (Or.inr (Or.inr (Or.inr (Or.inr (Or.inr (Or.inl ⟨c_1, c_2, c_3, c_4, c_5, c_6, c_7, c_8, c_9, rfl⟩))))))))) dX10_count_127 (jj_le rfl) (jj_le rfl)
  rcases jj_em (a0 = 9) with c_10 | c_10
  · refine jj_tableIn (tgt := 128) C dX10_count_1 (by rw [c_10]; decide) (by rw [c_10]; decide) (by rw [c_10]; rfl) (by decide) ?_
    refine jj_aload_n C dX10_count_128 rfl ?_
    refine jj_get C jk_11 3 (by decide) jw_135 0 rfl rfl dX10_count_129 ?_
    refine jj_get C jk_2 6 (by decide) jw_479 1 rfl rfl dX10_count_132 ?_
    exact jj_iret C (Or.inr (Or.inr (Or.inr (Or.inr (Or.inr (Or.inr (Or.inr (Or.inr (Or.inr ⟨c_1, c_2, c_3, c_4, c_5, c_6, c_7, c_8, c_9, c_10, rfl⟩))))))))) dX10_count_135 (jj_le rfl) (jj_le rfl)
  refine jj_tableOut (tgt := 136) C dX10_count_1 (by have zc_1 := lv_neT (a := 0) c_1 (by decide); have zc_2 := lv_neT (a := 1) c_2 (by decide); have zc_3 := lv_neT (a := 2) c_3 (by decide); have zc_4 := lv_neT (a := 3) c_4 (by decide); have zc_5 := lv_neT (a := 4) c_5 (by decide); have zc_6 := lv_neT (a := 5) c_6 (by decide); have zc_7 := lv_neT (a := 6) c_7 (by decide); have zc_8 := lv_neT (a := 7) c_8 (by decide); have zc_9 := lv_neT (a := 8) c_9 (by decide); have zc_10 := lv_neT (a := 9) c_10 (by decide); omega) (by decide) ?_
  exact jj_throw (k := 42) (text := "no such count") C jt_RX10_75 jw_244 (by decide +kernel) dX10_count_136 dX10_count_139 dX10_count_140 dX10_count_142 dX10_count_145 hex (jj_le rfl) (jj_le rfl) (jj_le rfl) (jj_le rfl) ⟨rfl, c_1, c_2, c_3, c_4, c_5, c_6, c_7, c_8, c_9, c_10⟩ (jj_le rfl) (jj_le rfl)


set_option maxHeartbeats 4000000 in
set_option maxRecDepth 100000 in
theorem ct_X11_in_8 {l : Launch} (hl : l.stackTraces = false) (D : va_G) (cA : Nat → ClassId) (ak : (Nat → Nat) × (Nat → Nat)) (b0 : Int64) : jj_M l D cA ak yX11_in (.code yX11_in cX11_in 6 (some .boolean)) 0 0 0 0 [] [.long b0, .long 0, .long 9] (fun (w : va_W) (r : Option Value) => (b0 < 0 ∧ w = [] ∧ r = some (.int 0)) ∨ (¬ b0 < 0 ∧ 9 < b0 ∧ w = [] ∧ r = some (.int 0)) ∨ (¬ b0 < 0 ∧ ¬ 9 < b0 ∧ w = [] ∧ r = some (.int 1))) jj_noX := by
  refine jj_start hl (by decide) jw_246 (jj_le rfl) ?_
  intro p e s m args below meth c A hargs hA C hex hmn
  refine jj_lload_n C dX11_in_0 rfl ?_
  refine jj_lload_n C dX11_in_1 rfl ?_
  refine jj_lcmp_lt (tgt := 17) C dX11_in_2 dX11_in_3 (by decide) (fun c_1 => ?_) (fun c_1 => ?_)
  · refine jj_iconst (v := 0) C dX11_in_17 (by decide) ?_
    exact jj_zret C rfl (Or.inl ⟨c_1, rfl, rfl⟩) dX11_in_18 (jj_le rfl) (jj_le rfl)
  · refine jj_lload_n C dX11_in_6 rfl ?_
    refine jj_lload C dX11_in_7 rfl ?_
    refine jj_lcmp_gt (tgt := 17) C dX11_in_9 dX11_in_10 (by decide) (fun c_2 => ?_) (fun c_2 => ?_)
    · refine jj_iconst (v := 0) C dX11_in_17 (by decide) ?_
      exact jj_zret C rfl (Or.inr (Or.inl ⟨c_1, c_2, rfl, rfl⟩)) dX11_in_18 (jj_le rfl) (jj_le rfl)
    · refine jj_iconst (v := 1) C dX11_in_13 (by decide) ?_
      refine jj_goto (tgt := 18) C dX11_in_14 (by decide) ?_
      exact jj_zret C rfl (Or.inr (Or.inr ⟨c_1, c_2, rfl, rfl⟩)) dX11_in_18 (jj_le rfl) (jj_le rfl)


set_option maxHeartbeats 4000000 in
set_option maxRecDepth 100000 in
theorem ct_X11_count_1 {l : Launch} (hl : l.stackTraces = false) (D : va_G) (cA : Nat → ClassId) (ak : (Nat → Nat) × (Nat → Nat)) (h0 h1 h2 h3 h4 h5 h6 h7 h8 h9 h10 h11 h12 : Nat) (a0 : Int32) : jj_M l D cA ak yX11_count (.code yX11_count cX11_count 2 (some .int)) 1 25 0 0 [(h0, .inr (12, [.ref h1, .ref h2, .ref h3, .ref h4, .ref h5, .ref h6, .int 0, .int 0, .long 0, .long 0, .ref h7, .ref h8, .ref h9, .int 0, .int 0, .int 0, .int 0, .int 0, .int (-1), .int 0, .int 0, .ref h10, .ref h11, .ref h12, .int 0])), (h1, .inl (cA 2, 334, .inr (.inl (vp_updL (vp_updL (fun _ => 0) 0 1) 4 100))))] [.ref h0, .int a0] (fun (w : va_W) (r : Option Value) => (a0.toInt64 < 0 ∧ w = [(h1, .inl (cA 2, 334, .inr (.inl (vp_updL (vp_updL (fun _ => 0) 0 1) 4 100)))), (h0, .inr (12, [.ref h1, .ref h2, .ref h3, .ref h4, .ref h5, .ref h6, .int 0, .int 1, .long 0, .long 0, .ref h7, .ref h8, .ref h9, .int 0, .int 0, .int 0, .int 0, .int 0, .int (-1), .int 0, .int 0, .ref h10, .ref h11, .ref h12, .int 0]))] ∧ r = some (.int 0)) ∨ (¬ a0.toInt64 < 0 ∧ 9 < a0.toInt64 ∧ w = [(h1, .inl (cA 2, 334, .inr (.inl (vp_updL (vp_updL (fun _ => 0) 0 1) 4 100)))), (h0, .inr (12, [.ref h1, .ref h2, .ref h3, .ref h4, .ref h5, .ref h6, .int 0, .int 1, .long 0, .long 0, .ref h7, .ref h8, .ref h9, .int 0, .int 0, .int 0, .int 0, .int 0, .int (-1), .int 0, .int 0, .ref h10, .ref h11, .ref h12, .int 0]))] ∧ r = some (.int 0)) ∨ (¬ a0.toInt64 < 0 ∧ ¬ 9 < a0.toInt64 ∧ a0 = 0 ∧ w = [(h1, .inl (cA 2, 334, .inr (.inl (vp_updL (vp_updL (fun _ => 0) 0 1) 4 100)))), (h0, .inr (12, [.ref h1, .ref h2, .ref h3, .ref h4, .ref h5, .ref h6, .int 0, .int 0, .long 0, .long 0, .ref h7, .ref h8, .ref h9, .int 0, .int 0, .int 0, .int 0, .int 0, .int (-1), .int 0, .int 0, .ref h10, .ref h11, .ref h12, .int 0]))] ∧ r = some (.int 1)) ∨ (¬ a0.toInt64 < 0 ∧ ¬ 9 < a0.toInt64 ∧ a0 = 1 ∧ w = [(h1, .inl (cA 2, 334, .inr (.inl (vp_updL (vp_updL (fun _ => 0) 0 1) 4 100)))), (h0, .inr (12, [.ref h1, .ref h2, .ref h3, .ref h4, .ref h5, .ref h6, .int 0, .int 0, .long 0, .long 0, .ref h7, .ref h8, .ref h9, .int 0, .int 0, .int 0, .int 0, .int 0, .int (-1), .int 0, .int 0, .ref h10, .ref h11, .ref h12, .int 0]))] ∧ r = some (.int 0)) ∨ (¬ a0.toInt64 < 0 ∧ ¬ 9 < a0.toInt64 ∧ a0 = 2 ∧ w = [(h1, .inl (cA 2, 334, .inr (.inl (vp_updL (vp_updL (fun _ => 0) 0 1) 4 100)))), (h0, .inr (12, [.ref h1, .ref h2, .ref h3, .ref h4, .ref h5, .ref h6, .int 0, .int 0, .long 0, .long 0, .ref h7, .ref h8, .ref h9, .int 0, .int 0, .int 0, .int 0, .int 0, .int (-1), .int 0, .int 0, .ref h10, .ref h11, .ref h12, .int 0]))] ∧ r = some (.int 0)) ∨ (¬ a0.toInt64 < 0 ∧ ¬ 9 < a0.toInt64 ∧ a0 = 3 ∧ w = [(h1, .inl (cA 2, 334, .inr (.inl (vp_updL (vp_updL (fun _ => 0) 0 1) 4 100)))), (h0, .inr (12, [.ref h1, .ref h2, .ref h3, .ref h4, .ref h5, .ref h6, .int 0, .int 0, .long 0, .long 0, .ref h7, .ref h8, .ref h9, .int 0, .int 0, .int 0, .int 0, .int 0, .int (-1), .int 0, .int 0, .ref h10, .ref h11, .ref h12, .int 0]))] ∧ r = some (.int 0)) ∨ (¬ a0.toInt64 < 0 ∧ ¬ 9 < a0.toInt64 ∧ a0 = 4 ∧ w = [(h1, .inl (cA 2, 334, .inr (.inl (vp_updL (vp_updL (fun _ => 0) 0 1) 4 100)))), (h0, .inr (12, [.ref h1, .ref h2, .ref h3, .ref h4, .ref h5, .ref h6, .int 0, .int 0, .long 0, .long 0, .ref h7, .ref h8, .ref h9, .int 0, .int 0, .int 0, .int 0, .int 0, .int (-1), .int 0, .int 0, .ref h10, .ref h11, .ref h12, .int 0]))] ∧ r = some (.int 100)) ∨ (¬ a0.toInt64 < 0 ∧ ¬ 9 < a0.toInt64 ∧ a0 = 5 ∧ w = [(h1, .inl (cA 2, 334, .inr (.inl (vp_updL (vp_updL (fun _ => 0) 0 1) 4 100)))), (h0, .inr (12, [.ref h1, .ref h2, .ref h3, .ref h4, .ref h5, .ref h6, .int 0, .int 0, .long 0, .long 0, .ref h7, .ref h8, .ref h9, .int 0, .int 0, .int 0, .int 0, .int 0, .int (-1), .int 0, .int 0, .ref h10, .ref h11, .ref h12, .int 0]))] ∧ r = some (.int 0)) ∨ (¬ a0.toInt64 < 0 ∧ ¬ 9 < a0.toInt64 ∧ a0 = 6 ∧ w = [(h1, .inl (cA 2, 334, .inr (.inl (vp_updL (vp_updL (fun _ => 0) 0 1) 4 100)))), (h0, .inr (12, [.ref h1, .ref h2, .ref h3, .ref h4, .ref h5, .ref h6, .int 0, .int 0, .long 0, .long 0, .ref h7, .ref h8, .ref h9, .int 0, .int 0, .int 0, .int 0, .int 0, .int (-1), .int 0, .int 0, .ref h10, .ref h11, .ref h12, .int 0]))] ∧ r = some (.int 0)) ∨ (¬ a0.toInt64 < 0 ∧ ¬ 9 < a0.toInt64 ∧ a0 = 7 ∧ w = [(h1, .inl (cA 2, 334, .inr (.inl (vp_updL (vp_updL (fun _ => 0) 0 1) 4 100)))), (h0, .inr (12, [.ref h1, .ref h2, .ref h3, .ref h4, .ref h5, .ref h6, .int 0, .int 0, .long 0, .long 0, .ref h7, .ref h8, .ref h9, .int 0, .int 0, .int 0, .int 0, .int 0, .int (-1), .int 0, .int 0, .ref h10, .ref h11, .ref h12, .int 0]))] ∧ r = some (.int 0)) ∨ (¬ a0.toInt64 < 0 ∧ ¬ 9 < a0.toInt64 ∧ a0 = 8 ∧ w = [(h1, .inl (cA 2, 334, .inr (.inl (vp_updL (vp_updL (fun _ => 0) 0 1) 4 100)))), (h0, .inr (12, [.ref h1, .ref h2, .ref h3, .ref h4, .ref h5, .ref h6, .int 0, .int 0, .long 0, .long 0, .ref h7, .ref h8, .ref h9, .int 0, .int 0, .int 0, .int 0, .int 0, .int (-1), .int 0, .int 0, .ref h10, .ref h11, .ref h12, .int 0]))] ∧ r = some (.int 0)) ∨ (¬ a0.toInt64 < 0 ∧ ¬ 9 < a0.toInt64 ∧ a0 = 9 ∧ w = [(h1, .inl (cA 2, 334, .inr (.inl (vp_updL (vp_updL (fun _ => 0) 0 1) 4 100)))), (h0, .inr (12, [.ref h1, .ref h2, .ref h3, .ref h4, .ref h5, .ref h6, .int 0, .int 0, .long 0, .long 0, .ref h7, .ref h8, .ref h9, .int 0, .int 0, .int 0, .int 0, .int 0, .int (-1), .int 0, .int 0, .ref h10, .ref h11, .ref h12, .int 0]))] ∧ r = some (.int 0))) jj_noX := by
  refine jj_start hl (by decide) jw_482 (jj_le rfl) ?_
  intro p e s m args below meth c A hargs hA C hex hmn
  refine jj_aload_n C dX11_count_0 rfl ?_
  refine jj_iload_n C dX11_count_1 rfl ?_
  refine jj_i2l C dX11_count_2 rfl ?_
  refine jj_lconst (v := 0) C dX11_count_3 (by decide) ?_
  refine jj_ldc2 (v := 9) C dX11_count_4 jw_481 ?_
  refine jq_callS (rest := [.ref h0]) C (ct_X11_in_8 hl D cA ak a0.toInt64) [] [0, 1] rfl rfl (by decide) (by decide) (by decide) jw_247 jw_248 jw_224 jw_246 jn_X11_in rfl (jj_le rfl) (jj_le rfl) (jj_le rfl) (jj_le rfl) (jj_le rfl) dX11_count_7 rfl (fun _ _ hX => hX.elim) (fun w1 r O_2 => ?_)
  rcases O_2 with ⟨c_3, rfl, rfl⟩ | ⟨c_4, c_5, rfl, rfl⟩ | ⟨c_6, c_7, rfl, rfl⟩
  · refine jj_apd rfl ?_
    refine jj_if_neF (tgt := 17) C dX11_count_10 (by decide) (by decide) ?_
    refine jj_iconst (v := 1) C dX11_count_13 (by decide) ?_
    refine jj_goto (tgt := 18) C dX11_count_14 (by decide) ?_
    refine jj_iconst (v := 1) C dX11_count_18 (by decide) ?_
    refine jq_callV (rest := []) C (ct_X11_fails_1 hl D cA ak h0 h1 h2 h3 h4 h5 h6 h7 h8 h9 h10 h11 h12) [0] [1] rfl rfl (by decide) (by decide) (by decide) 0 rfl rfl rfl jw_306 jw_307 jw_308 jw_224 jw_305 jn_X11_fails rfl (jj_le rfl) (jj_le rfl) (jj_le rfl) (jj_le rfl) (jj_le rfl) dX11_count_19 rfl (fun _ _ hX => hX.elim) (fun w1 r O_9 => ?_)
    obtain ⟨rfl, rfl⟩ := O_9
    refine jj_apd rfl ?_
    refine jj_if_eqF (tgt := 29) C dX11_count_22 (by decide) (by decide) ?_
    refine jj_iconst (v := 0) C dX11_count_25 (by decide) ?_
    refine jj_goto (tgt := 36) C dX11_count_26 (by decide) ?_
    exact jj_iret C (Or.inl ⟨c_3, rfl, rfl⟩) dX11_count_36 (jj_le rfl) (jj_le rfl)
  · refine jj_apd rfl ?_
    refine jj_if_neF (tgt := 17) C dX11_count_10 (by decide) (by decide) ?_
    refine jj_iconst (v := 1) C dX11_count_13 (by decide) ?_
    refine jj_goto (tgt := 18) C dX11_count_14 (by decide) ?_
    refine jj_iconst (v := 1) C dX11_count_18 (by decide) ?_
    refine jq_callV (rest := []) C (ct_X11_fails_1 hl D cA ak h0 h1 h2 h3 h4 h5 h6 h7 h8 h9 h10 h11 h12) [0] [1] rfl rfl (by decide) (by decide) (by decide) 0 rfl rfl rfl jw_306 jw_307 jw_308 jw_224 jw_305 jn_X11_fails rfl (jj_le rfl) (jj_le rfl) (jj_le rfl) (jj_le rfl) (jj_le rfl) dX11_count_19 rfl (fun _ _ hX => hX.elim) (fun w1 r O_11 => ?_)
    obtain ⟨rfl, rfl⟩ := O_11
    refine jj_apd rfl ?_
    refine jj_if_eqF (tgt := 29) C dX11_count_22 (by decide) (by decide) ?_
    refine jj_iconst (v := 0) C dX11_count_25 (by decide) ?_
    refine jj_goto (tgt := 36) C dX11_count_26 (by decide) ?_
    exact jj_iret C (Or.inr (Or.inl ⟨c_4, c_5, rfl, rfl⟩)) dX11_count_36 (jj_le rfl) (jj_le rfl)
  · refine jj_apd rfl ?_
    refine jj_if_neT (tgt := 17) C dX11_count_10 (by decide) (by decide) ?_
    refine jj_iconst (v := 0) C dX11_count_17 (by decide) ?_
    refine jj_iconst (v := 1) C dX11_count_18 (by decide) ?_
    refine jq_callV (rest := []) C (ct_X11_fails_2 hl D cA ak h0 h1 h2 h3 h4 h5 h6 h7 h8 h9 h10 h11 h12) [0] [1] rfl rfl (by decide) (by decide) (by decide) 0 rfl rfl rfl jw_306 jw_307 jw_308 jw_224 jw_305 jn_X11_fails rfl (jj_le rfl) (jj_le rfl) (jj_le rfl) (jj_le rfl) (jj_le rfl) dX11_count_19 rfl (fun _ _ hX => hX.elim) (fun w1 r O_13 => ?_)
    obtain ⟨rfl, rfl⟩ := O_13
    refine jj_apd rfl ?_
    refine jj_if_eqT (tgt := 29) C dX11_count_22 (by decide) (by decide) ?_
    refine jj_aload_n C dX11_count_29 rfl ?_
    refine jj_get C jk_12 0 (by decide) jw_181 1 rfl rfl dX11_count_30 ?_
    refine jj_iload_n C dX11_count_33 rfl ?_
    rcases jj_em (a0 = 0) with rfl | n_14
    · show jj_J p l e _ s m args below meth c _ A _ (jj_X D A [(h1, .inl (cA 2, 334, .inr (.inl (vp_updL (vp_updL (fun _ => 0) 0 1) 4 100)))), (h0, .inr (12, [.ref h1, .ref h2, .ref h3, .ref h4, .ref h5, .ref h6, .int 0, .int 0, .long 0, .long 0, .ref h7, .ref h8, .ref h9, .int 0, .int 0, .int 0, .int 0, .int 0, .int (-1), .int 0, .int 0, .ref h10, .ref h11, .ref h12, .int 0]))]) _ _ 34 [(0, .ref h0), (1, .int 0)] [.int 0, .ref h1]
      refine jj_lald (v := 1) C 0 rfl (vp_in_iff.mpr (by decide)) rfl dX11_count_34 ?_
      refine jj_l2i (v := 1) C dX11_count_35 (by decide) ?_
      exact jj_iret C (Or.inr (Or.inr (Or.inl ⟨c_6, c_7, rfl, rfl, rfl⟩))) dX11_count_36 (jj_le rfl) (jj_le rfl)
    rcases jj_em (a0 = 1) with rfl | n_15
    · show jj_J p l e _ s m args below meth c _ A _ (jj_X D A [(h1, .inl (cA 2, 334, .inr (.inl (vp_updL (vp_updL (fun _ => 0) 0 1) 4 100)))), (h0, .inr (12, [.ref h1, .ref h2, .ref h3, .ref h4, .ref h5, .ref h6, .int 0, .int 0, .long 0, .long 0, .ref h7, .ref h8, .ref h9, .int 0, .int 0, .int 0, .int 0, .int 0, .int (-1), .int 0, .int 0, .ref h10, .ref h11, .ref h12, .int 0]))]) _ _ 34 [(0, .ref h0), (1, .int 1)] [.int 1, .ref h1]
      refine jj_lald (v := 0) C 0 rfl (vp_in_iff.mpr (by decide)) rfl dX11_count_34 ?_
      refine jj_l2i (v := 0) C dX11_count_35 (by decide) ?_
      exact jj_iret C (Or.inr (Or.inr (Or.inr (Or.inl ⟨c_6, c_7, rfl, rfl, rfl⟩)))) dX11_count_36 (jj_le rfl) (jj_le rfl)
    rcases jj_em (a0 = 2) with rfl | n_16
    · show jj_J p l e _ s m args below meth c _ A _ (jj_X D A [(h1, .inl (cA 2, 334, .inr (.inl (vp_updL (vp_updL (fun _ => 0) 0 1) 4 100)))), (h0, .inr (12, [.ref h1, .ref h2, .ref h3, .ref h4, .ref h5, .ref h6, .int 0, .int 0, .long 0, .long 0, .ref h7, .ref h8, .ref h9, .int 0, .int 0, .int 0, .int 0, .int 0, .int (-1), .int 0, .int 0, .ref h10, .ref h11, .ref h12, .int 0]))]) _ _ 34 [(0, .ref h0), (1, .int 2)] [.int 2, .ref h1]
      refine jj_lald (v := 0) C 0 rfl (vp_in_iff.mpr (by decide)) rfl dX11_count_34 ?_
      refine jj_l2i (v := 0) C dX11_count_35 (by decide) ?_
      exact jj_iret C (Or.inr (Or.inr (Or.inr (Or.inr (Or.inl ⟨c_6, c_7, rfl, rfl, rfl⟩))))) dX11_count_36 (jj_le rfl) (jj_le rfl)
    rcases jj_em (a0 = 3) with rfl | n_17
    · show jj_J p l e _ s m args below meth c _ A _ (jj_X D A [(h1, .inl (cA 2, 334, .inr (.inl (vp_updL (vp_updL (fun _ => 0) 0 1) 4 100)))), (h0, .inr (12, [.ref h1, .ref h2, .ref h3, .ref h4, .ref h5, .ref h6, .int 0, .int 0, .long 0, .long 0, .ref h7, .ref h8, .ref h9, .int 0, .int 0, .int 0, .int 0, .int 0, .int (-1), .int 0, .int 0, .ref h10, .ref h11, .ref h12, .int 0]))]) _ _ 34 [(0, .ref h0), (1, .int 3)] [.int 3, .ref h1]
      refine jj_lald (v := 0) C 0 rfl (vp_in_iff.mpr (by decide)) rfl dX11_count_34 ?_
      refine jj_l2i (v := 0) C dX11_count_35 (by decide) ?_
      exact jj_iret C (Or.inr (Or.inr (Or.inr (Or.inr (Or.inr (Or.inl ⟨c_6, c_7, rfl, rfl, rfl⟩)))))) dX11_count_36 (jj_le rfl) (jj_le rfl)
    rcases jj_em (a0 = 4) with rfl | n_18
    · show jj_J p l e _ s m args below meth c _ A _ (jj_X D A [(h1, .inl (cA 2, 334, .inr (.inl (vp_updL (vp_updL (fun _ => 0) 0 1) 4 100)))), (h0, .inr (12, [.ref h1, .ref h2, .ref h3, .ref h4, .ref h5, .ref h6, .int 0, .int 0, .long 0, .long 0, .ref h7, .ref h8, .ref h9, .int 0, .int 0, .int 0, .int 0, .int 0, .int (-1), .int 0, .int 0, .ref h10, .ref h11, .ref h12, .int 0]))]) _ _ 34 [(0, .ref h0), (1, .int 4)] [.int 4, .ref h1]
      refine jj_lald (v := 100) C 0 rfl (vp_in_iff.mpr (by decide)) rfl dX11_count_34 ?_
      refine jj_l2i (v := 100) C dX11_count_35 (by decide) ?_
      exact jj_iret C (Or.inr (Or.inr (Or.inr (Or.inr (Or.inr (Or.inr (Or.inl ⟨c_6, c_7, rfl, rfl, rfl⟩))))))) dX11_count_36 (jj_le rfl) (jj_le rfl)
    rcases jj_em (a0 = 5) with rfl | n_19
    · show jj_J p l e _ s m args below meth c _ A _ (jj_X D A [(h1, .inl (cA 2, 334, .inr (.inl (vp_updL (vp_updL (fun _ => 0) 0 1) 4 100)))), (h0, .inr (12, [.ref h1, .ref h2, .ref h3, .ref h4, .ref h5, .ref h6, .int 0, .int 0, .long 0, .long 0, .ref h7, .ref h8, .ref h9, .int 0, .int 0, .int 0, .int 0, .int 0, .int (-1), .int 0, .int 0, .ref h10, .ref h11, .ref h12, .int 0]))]) _ _ 34 [(0, .ref h0), (1, .int 5)] [.int 5, .ref h1]
      refine jj_lald (v := 0) C 0 rfl (vp_in_iff.mpr (by decide)) rfl dX11_count_34 ?_
      refine jj_l2i (v := 0) C dX11_count_35 (by decide) ?_
      exact jj_iret C (Or.inr (Or.inr (Or.inr (Or.inr (Or.inr (Or.inr (Or.inr (Or.inl ⟨c_6, c_7, rfl, rfl, rfl⟩)))))))) dX11_count_36 (jj_le rfl) (jj_le rfl)
    rcases jj_em (a0 = 6) with rfl | n_20
    · show jj_J p l e _ s m args below meth c _ A _ (jj_X D A [(h1, .inl (cA 2, 334, .inr (.inl (vp_updL (vp_updL (fun _ => 0) 0 1) 4 100)))), (h0, .inr (12, [.ref h1, .ref h2, .ref h3, .ref h4, .ref h5, .ref h6, .int 0, .int 0, .long 0, .long 0, .ref h7, .ref h8, .ref h9, .int 0, .int 0, .int 0, .int 0, .int 0, .int (-1), .int 0, .int 0, .ref h10, .ref h11, .ref h12, .int 0]))]) _ _ 34 [(0, .ref h0), (1, .int 6)] [.int 6, .ref h1]
      refine jj_lald (v := 0) C 0 rfl (vp_in_iff.mpr (by decide)) rfl dX11_count_34 ?_
      refine jj_l2i (v := 0) C dX11_count_35 (by decide) ?_
      exact jj_iret C (Or.inr (Or.inr (Or.inr (Or.inr (Or.inr (Or.inr (Or.inr (Or.inr (Or.inl ⟨c_6, c_7, rfl, rfl, rfl⟩))))))))) dX11_count_36 (jj_le rfl) (jj_le rfl)
    rcases jj_em (a0 = 7) with rfl | n_21
    · show jj_J p l e _ s m args below meth c _ A _ (jj_X D A [(h1, .inl (cA 2, 334, .inr (.inl (vp_updL (vp_updL (fun _ => 0) 0 1) 4 100)))), (h0, .inr (12, [.ref h1, .ref h2, .ref h3, .ref h4, .ref h5, .ref h6, .int 0, .int 0, .long 0, .long 0, .ref h7, .ref h8, .ref h9, .int 0, .int 0, .int 0, .int 0, .int 0, .int (-1), .int 0, .int 0, .ref h10, .ref h11, .ref h12, .int 0]))]) _ _ 34 [(0, .ref h0), (1, .int 7)] [.int 7, .ref h1]
      refine jj_lald (v := 0) C 0 rfl (vp_in_iff.mpr (by decide)) rfl dX11_count_34 ?_
      refine jj_l2i (v := 0) C dX11_count_35 (by decide) ?_
      exact jj_iret C (Or.inr (Or.inr (Or.inr (Or.inr (Or.inr (Or.inr (Or.inr (Or.inr (Or.inr (Or.inl ⟨c_6, c_7, rfl, rfl, rfl⟩)))))))))) dX11_count_36 (jj_le rfl) (jj_le rfl)
    rcases jj_em (a0 = 8) with rfl | n_22
    · show jj_J p l e _ s m args below meth c _ A _ (jj_X D A [(h1, .inl (cA 2, 334, .inr (.inl (vp_updL (vp_updL (fun _ => 0) 0 1) 4 100)))), (h0, .inr (12, [.ref h1, .ref h2, .ref h3, .ref h4, .ref h5, .ref h6, .int 0, .int 0, .long 0, .long 0, .ref h7, .ref h8, .ref h9, .int 0, .int 0, .int 0, .int 0, .int 0, .int (-1), .int 0, .int 0, .ref h10, .ref h11, .ref h12, .int 0]))]) _ _ 34 [(0, .ref h0), (1, .int 8)] [.int 8, .ref h1]
      refine jj_lald (v := 0) C 0 rfl (vp_in_iff.mpr (by decide)) rfl dX11_count_34 ?_
      refine jj_l2i (v := 0) C dX11_count_35 (by decide) ?_
      exact jj_iret C (Or.inr (Or.inr (Or.inr (Or.inr (Or.inr (Or.inr (Or.inr (Or.inr (Or.inr (Or.inr (Or.inl ⟨c_6, c_7, rfl, rfl, rfl⟩))))))))))) dX11_count_36 (jj_le rfl) (jj_le rfl)
    rcases jj_em (a0 = 9) with rfl | n_23
    · show jj_J p l e _ s m args below meth c _ A _ (jj_X D A [(h1, .inl (cA 2, 334, .inr (.inl (vp_updL (vp_updL (fun _ => 0) 0 1) 4 100)))), (h0, .inr (12, [.ref h1, .ref h2, .ref h3, .ref h4, .ref h5, .ref h6, .int 0, .int 0, .long 0, .long 0, .ref h7, .ref h8, .ref h9, .int 0, .int 0, .int 0, .int 0, .int 0, .int (-1), .int 0, .int 0, .ref h10, .ref h11, .ref h12, .int 0]))]) _ _ 34 [(0, .ref h0), (1, .int 9)] [.int 9, .ref h1]
      refine jj_lald (v := 0) C 0 rfl (vp_in_iff.mpr (by decide)) rfl dX11_count_34 ?_
      refine jj_l2i (v := 0) C dX11_count_35 (by decide) ?_
      exact jj_iret C (Or.inr (Or.inr (Or.inr (Or.inr (Or.inr (Or.inr (Or.inr (Or.inr (Or.inr (Or.inr (Or.inr ⟨c_6, c_7, rfl, rfl, rfl⟩))))))))))) dX11_count_36 (jj_le rfl) (jj_le rfl)
    exfalso; have z0 := lv_neT (a := 0) n_14 (by decide); have z1 := lv_neT (a := 1) n_15 (by decide); have z2 := lv_neT (a := 2) n_16 (by decide); have z3 := lv_neT (a := 3) n_17 (by decide); have z4 := lv_neT (a := 4) n_18 (by decide); have z5 := lv_neT (a := 5) n_19 (by decide); have z6 := lv_neT (a := 6) n_20 (by decide); have z7 := lv_neT (a := 7) n_21 (by decide); have z8 := lv_neT (a := 8) n_22 (by decide); have z9 := lv_neT (a := 9) n_23 (by decide); have y0 := jc_nltL (a := a0.toInt) (b := (0)) c_6 (Int32.toInt_toInt64 _) (by decide); have y1 := jc_leL (a := (0)) (b := a0.toInt) (by first | exact Int64.not_lt.mp c_6 | exact Int32.not_lt.mp c_6) (by decide) (Int32.toInt_toInt64 _); have y2 := jc_nltL (a := (9)) (b := a0.toInt) c_7 (by decide) (Int32.toInt_toInt64 _); have y3 := jc_leL (a := a0.toInt) (b := (9)) (by first | exact Int64.not_lt.mp c_7 | exact Int32.not_lt.mp c_7) (Int32.toInt_toInt64 _) (by decide); omega


set_option maxHeartbeats 4000000 in
set_option maxRecDepth 100000 in
theorem ct_X10_account_1 {l : Launch} (hl : l.stackTraces = false) (D : va_G) (cA : Nat → ClassId) (ak : (Nat → Nat) × (Nat → Nat)) (h0 h1 h2 h3 h4 h5 h6 h7 h8 h9 h10 : Nat) (a0 : Int32) : jj_M l D cA ak yX10_account (.code yX10_account cX10_account 2 (some .long)) 6 82 1 6 [(h0, .inr (11, [.ref h3, .int 0, .int (-1), .ref h1, .ref h4, .ref h5, .ref h6, .int 0, .int 0, .ref h7])), (h1, .inr (2, [.int 1, .int 0, .int 0, .int 0, .int 100, .int 0, .int 0, .int 0, .int 0, .int 0, .ref h2, .ref h8, .ref h9, .ref h10])), (h2, .inl (cA 2, 6, .inr (.inl (fun _ => 0))))] [.ref h0, .int a0] (fun (w : va_W) (r : Option Value) => (¬ a0 < 0 ∧ a0 < 6 ∧ r = some (.long 0))) (fun (E : String) (w : va_W) => (E = "java/lang/IllegalArgumentException" ∧ a0 < 0) ∨ (E = "java/lang/IllegalArgumentException" ∧ ¬ a0 < 0 ∧ ¬ a0 < 6)) := by
  refine jj_start hl (by decide) jw_484 (jj_le rfl) ?_
  intro p e s m args below meth c A hargs hA C hex hmn
  refine jj_iload_n C dX10_account_0 rfl ?_
  refine jj_if_lt (tgt := 10) C dX10_account_1 (by decide) (fun c_1 => ?_) (fun c_1 => ?_)
  · exact jj_throw (k := 43) (text := "no such account") C jt_RX10_75 jw_244 (by decide +kernel) dX10_account_10 dX10_account_13 dX10_account_14 dX10_account_16 dX10_account_19 hex (jj_le rfl) (jj_le rfl) (jj_le rfl) (jj_le rfl) (Or.inl ⟨rfl, c_1⟩) (jj_le rfl) (jj_le rfl)
  · refine jj_iload_n C dX10_account_4 rfl ?_
    refine jj_bipush (v := 6) C dX10_account_5 (by decide) ?_
    refine jj_icmp_lt (tgt := 20) C dX10_account_7 (by decide) (fun c_2 => ?_) (fun c_2 => ?_)
    · refine jj_aload_n C dX10_account_20 rfl ?_
      refine jj_get C jk_11 3 (by decide) jw_135 0 rfl rfl dX10_account_21 ?_
      refine jj_get C jk_2 10 (by decide) jw_483 1 rfl rfl dX10_account_24 ?_
      refine jj_iload_n C dX10_account_27 rfl ?_
      refine jj_lald (v := 0) C 2 rfl (jj_vin (k := 6) (jj_lele (by decide) (jj_flt c_1)) (jj_ltl c_2 (by decide))) rfl dX10_account_28 ?_
      exact jj_lret C ⟨c_1, c_2, rfl⟩ dX10_account_29 (jj_le rfl) (jj_le rfl)
    · exact jj_throw (k := 43) (text := "no such account") C jt_RX10_75 jw_244 (by decide +kernel) dX10_account_10 dX10_account_13 dX10_account_14 dX10_account_16 dX10_account_19 hex (jj_le rfl) (jj_le rfl) (jj_le rfl) (jj_le rfl) (Or.inr ⟨rfl, c_1, c_2⟩) (jj_le rfl) (jj_le rfl)


set_option maxHeartbeats 4000000 in
set_option maxRecDepth 100000 in
theorem ct_X11_in_9 {l : Launch} (hl : l.stackTraces = false) (D : va_G) (cA : Nat → ClassId) (ak : (Nat → Nat) × (Nat → Nat)) (b0 : Int64) : jj_M l D cA ak yX11_in (.code yX11_in cX11_in 6 (some .boolean)) 0 0 0 0 [] [.long b0, .long 0, .long 5] (fun (w : va_W) (r : Option Value) => (b0 < 0 ∧ w = [] ∧ r = some (.int 0)) ∨ (¬ b0 < 0 ∧ 5 < b0 ∧ w = [] ∧ r = some (.int 0)) ∨ (¬ b0 < 0 ∧ ¬ 5 < b0 ∧ w = [] ∧ r = some (.int 1))) jj_noX := by
  refine jj_start hl (by decide) jw_246 (jj_le rfl) ?_
  intro p e s m args below meth c A hargs hA C hex hmn
  refine jj_lload_n C dX11_in_0 rfl ?_
  refine jj_lload_n C dX11_in_1 rfl ?_
  refine jj_lcmp_lt (tgt := 17) C dX11_in_2 dX11_in_3 (by decide) (fun c_1 => ?_) (fun c_1 => ?_)
  · refine jj_iconst (v := 0) C dX11_in_17 (by decide) ?_
    exact jj_zret C rfl (Or.inl ⟨c_1, rfl, rfl⟩) dX11_in_18 (jj_le rfl) (jj_le rfl)
  · refine jj_lload_n C dX11_in_6 rfl ?_
    refine jj_lload C dX11_in_7 rfl ?_
    refine jj_lcmp_gt (tgt := 17) C dX11_in_9 dX11_in_10 (by decide) (fun c_2 => ?_) (fun c_2 => ?_)
    · refine jj_iconst (v := 0) C dX11_in_17 (by decide) ?_
      exact jj_zret C rfl (Or.inr (Or.inl ⟨c_1, c_2, rfl, rfl⟩)) dX11_in_18 (jj_le rfl) (jj_le rfl)
    · refine jj_iconst (v := 1) C dX11_in_13 (by decide) ?_
      refine jj_goto (tgt := 18) C dX11_in_14 (by decide) ?_
      exact jj_zret C rfl (Or.inr (Or.inr ⟨c_1, c_2, rfl, rfl⟩)) dX11_in_18 (jj_le rfl) (jj_le rfl)


set_option maxHeartbeats 4000000 in
set_option maxRecDepth 100000 in
theorem ct_X11_account_1 {l : Launch} (hl : l.stackTraces = false) (D : va_G) (cA : Nat → ClassId) (ak : (Nat → Nat) × (Nat → Nat)) (h0 h1 h2 h3 h4 h5 h6 h7 h8 h9 h10 h11 h12 : Nat) (a0 : Int32) : jj_M l D cA ak yX11_account (.code yX11_account cX11_account 2 (some .long)) 1 25 0 0 [(h0, .inr (12, [.ref h1, .ref h2, .ref h3, .ref h4, .ref h5, .ref h6, .int 0, .int 0, .long 0, .long 0, .ref h7, .ref h8, .ref h9, .int 0, .int 0, .int 0, .int 0, .int 0, .int (-1), .int 0, .int 0, .ref h10, .ref h11, .ref h12, .int 0])), (h1, .inl (cA 2, 334, .inr (.inl (vp_updL (vp_updL (fun _ => 0) 0 1) 4 100))))] [.ref h0, .int a0] (fun (w : va_W) (r : Option Value) => (a0.toInt64 < 0 ∧ w = [(h1, .inl (cA 2, 334, .inr (.inl (vp_updL (vp_updL (fun _ => 0) 0 1) 4 100)))), (h0, .inr (12, [.ref h1, .ref h2, .ref h3, .ref h4, .ref h5, .ref h6, .int 0, .int 1, .long 0, .long 0, .ref h7, .ref h8, .ref h9, .int 0, .int 0, .int 0, .int 0, .int 0, .int (-1), .int 0, .int 0, .ref h10, .ref h11, .ref h12, .int 0]))] ∧ r = some (.long 0)) ∨ (¬ a0.toInt64 < 0 ∧ 5 < a0.toInt64 ∧ w = [(h1, .inl (cA 2, 334, .inr (.inl (vp_updL (vp_updL (fun _ => 0) 0 1) 4 100)))), (h0, .inr (12, [.ref h1, .ref h2, .ref h3, .ref h4, .ref h5, .ref h6, .int 0, .int 1, .long 0, .long 0, .ref h7, .ref h8, .ref h9, .int 0, .int 0, .int 0, .int 0, .int 0, .int (-1), .int 0, .int 0, .ref h10, .ref h11, .ref h12, .int 0]))] ∧ r = some (.long 0)) ∨ (¬ a0.toInt64 < 0 ∧ ¬ 5 < a0.toInt64 ∧ a0 = 0 ∧ w = [(h1, .inl (cA 2, 334, .inr (.inl (vp_updL (vp_updL (fun _ => 0) 0 1) 4 100)))), (h0, .inr (12, [.ref h1, .ref h2, .ref h3, .ref h4, .ref h5, .ref h6, .int 0, .int 0, .long 0, .long 0, .ref h7, .ref h8, .ref h9, .int 0, .int 0, .int 0, .int 0, .int 0, .int (-1), .int 0, .int 0, .ref h10, .ref h11, .ref h12, .int 0]))] ∧ r = some (.long 0)) ∨ (¬ a0.toInt64 < 0 ∧ ¬ 5 < a0.toInt64 ∧ a0 = 1 ∧ w = [(h1, .inl (cA 2, 334, .inr (.inl (vp_updL (vp_updL (fun _ => 0) 0 1) 4 100)))), (h0, .inr (12, [.ref h1, .ref h2, .ref h3, .ref h4, .ref h5, .ref h6, .int 0, .int 0, .long 0, .long 0, .ref h7, .ref h8, .ref h9, .int 0, .int 0, .int 0, .int 0, .int 0, .int (-1), .int 0, .int 0, .ref h10, .ref h11, .ref h12, .int 0]))] ∧ r = some (.long 0)) ∨ (¬ a0.toInt64 < 0 ∧ ¬ 5 < a0.toInt64 ∧ a0 = 2 ∧ w = [(h1, .inl (cA 2, 334, .inr (.inl (vp_updL (vp_updL (fun _ => 0) 0 1) 4 100)))), (h0, .inr (12, [.ref h1, .ref h2, .ref h3, .ref h4, .ref h5, .ref h6, .int 0, .int 0, .long 0, .long 0, .ref h7, .ref h8, .ref h9, .int 0, .int 0, .int 0, .int 0, .int 0, .int (-1), .int 0, .int 0, .ref h10, .ref h11, .ref h12, .int 0]))] ∧ r = some (.long 0)) ∨ (¬ a0.toInt64 < 0 ∧ ¬ 5 < a0.toInt64 ∧ a0 = 3 ∧ w = [(h1, .inl (cA 2, 334, .inr (.inl (vp_updL (vp_updL (fun _ => 0) 0 1) 4 100)))), (h0, .inr (12, [.ref h1, .ref h2, .ref h3, .ref h4, .ref h5, .ref h6, .int 0, .int 0, .long 0, .long 0, .ref h7, .ref h8, .ref h9, .int 0, .int 0, .int 0, .int 0, .int 0, .int (-1), .int 0, .int 0, .ref h10, .ref h11, .ref h12, .int 0]))] ∧ r = some (.long 0)) ∨ (¬ a0.toInt64 < 0 ∧ ¬ 5 < a0.toInt64 ∧ a0 = 4 ∧ w = [(h1, .inl (cA 2, 334, .inr (.inl (vp_updL (vp_updL (fun _ => 0) 0 1) 4 100)))), (h0, .inr (12, [.ref h1, .ref h2, .ref h3, .ref h4, .ref h5, .ref h6, .int 0, .int 0, .long 0, .long 0, .ref h7, .ref h8, .ref h9, .int 0, .int 0, .int 0, .int 0, .int 0, .int (-1), .int 0, .int 0, .ref h10, .ref h11, .ref h12, .int 0]))] ∧ r = some (.long 0)) ∨ (¬ a0.toInt64 < 0 ∧ ¬ 5 < a0.toInt64 ∧ a0 = 5 ∧ w = [(h1, .inl (cA 2, 334, .inr (.inl (vp_updL (vp_updL (fun _ => 0) 0 1) 4 100)))), (h0, .inr (12, [.ref h1, .ref h2, .ref h3, .ref h4, .ref h5, .ref h6, .int 0, .int 0, .long 0, .long 0, .ref h7, .ref h8, .ref h9, .int 0, .int 0, .int 0, .int 0, .int 0, .int (-1), .int 0, .int 0, .ref h10, .ref h11, .ref h12, .int 0]))] ∧ r = some (.long 0))) jj_noX := by
  refine jj_start hl (by decide) jw_486 (jj_le rfl) ?_
  intro p e s m args below meth c A hargs hA C hex hmn
  refine jj_aload_n C dX11_account_0 rfl ?_
  refine jj_iload_n C dX11_account_1 rfl ?_
  refine jj_i2l C dX11_account_2 rfl ?_
  refine jj_lconst (v := 0) C dX11_account_3 (by decide) ?_
  refine jj_ldc2 (v := 5) C dX11_account_4 jw_485 ?_
  refine jq_callS (rest := [.ref h0]) C (ct_X11_in_9 hl D cA ak a0.toInt64) [] [0, 1] rfl rfl (by decide) (by decide) (by decide) jw_247 jw_248 jw_224 jw_246 jn_X11_in rfl (jj_le rfl) (jj_le rfl) (jj_le rfl) (jj_le rfl) (jj_le rfl) dX11_account_7 rfl (fun _ _ hX => hX.elim) (fun w1 r O_2 => ?_)
  rcases O_2 with ⟨c_3, rfl, rfl⟩ | ⟨c_4, c_5, rfl, rfl⟩ | ⟨c_6, c_7, rfl, rfl⟩
  · refine jj_apd rfl ?_
    refine jj_if_neF (tgt := 17) C dX11_account_10 (by decide) (by decide) ?_
    refine jj_iconst (v := 1) C dX11_account_13 (by decide) ?_
    refine jj_goto (tgt := 18) C dX11_account_14 (by decide) ?_
    refine jj_iconst (v := 1) C dX11_account_18 (by decide) ?_
    refine jq_callV (rest := []) C (ct_X11_fails_1 hl D cA ak h0 h1 h2 h3 h4 h5 h6 h7 h8 h9 h10 h11 h12) [0] [1] rfl rfl (by decide) (by decide) (by decide) 0 rfl rfl rfl jw_306 jw_307 jw_308 jw_224 jw_305 jn_X11_fails rfl (jj_le rfl) (jj_le rfl) (jj_le rfl) (jj_le rfl) (jj_le rfl) dX11_account_19 rfl (fun _ _ hX => hX.elim) (fun w1 r O_9 => ?_)
    obtain ⟨rfl, rfl⟩ := O_9
    refine jj_apd rfl ?_
    refine jj_if_eqF (tgt := 29) C dX11_account_22 (by decide) (by decide) ?_
    refine jj_lconst (v := 0) C dX11_account_25 (by decide) ?_
    refine jj_goto (tgt := 38) C dX11_account_26 (by decide) ?_
    exact jj_lret C (Or.inl ⟨c_3, rfl, rfl⟩) dX11_account_38 (jj_le rfl) (jj_le rfl)
  · refine jj_apd rfl ?_
    refine jj_if_neF (tgt := 17) C dX11_account_10 (by decide) (by decide) ?_
    refine jj_iconst (v := 1) C dX11_account_13 (by decide) ?_
    refine jj_goto (tgt := 18) C dX11_account_14 (by decide) ?_
    refine jj_iconst (v := 1) C dX11_account_18 (by decide) ?_
    refine jq_callV (rest := []) C (ct_X11_fails_1 hl D cA ak h0 h1 h2 h3 h4 h5 h6 h7 h8 h9 h10 h11 h12) [0] [1] rfl rfl (by decide) (by decide) (by decide) 0 rfl rfl rfl jw_306 jw_307 jw_308 jw_224 jw_305 jn_X11_fails rfl (jj_le rfl) (jj_le rfl) (jj_le rfl) (jj_le rfl) (jj_le rfl) dX11_account_19 rfl (fun _ _ hX => hX.elim) (fun w1 r O_11 => ?_)
    obtain ⟨rfl, rfl⟩ := O_11
    refine jj_apd rfl ?_
    refine jj_if_eqF (tgt := 29) C dX11_account_22 (by decide) (by decide) ?_
    refine jj_lconst (v := 0) C dX11_account_25 (by decide) ?_
    refine jj_goto (tgt := 38) C dX11_account_26 (by decide) ?_
    exact jj_lret C (Or.inr (Or.inl ⟨c_4, c_5, rfl, rfl⟩)) dX11_account_38 (jj_le rfl) (jj_le rfl)
  · refine jj_apd rfl ?_
    refine jj_if_neT (tgt := 17) C dX11_account_10 (by decide) (by decide) ?_
    refine jj_iconst (v := 0) C dX11_account_17 (by decide) ?_
    refine jj_iconst (v := 1) C dX11_account_18 (by decide) ?_
    refine jq_callV (rest := []) C (ct_X11_fails_2 hl D cA ak h0 h1 h2 h3 h4 h5 h6 h7 h8 h9 h10 h11 h12) [0] [1] rfl rfl (by decide) (by decide) (by decide) 0 rfl rfl rfl jw_306 jw_307 jw_308 jw_224 jw_305 jn_X11_fails rfl (jj_le rfl) (jj_le rfl) (jj_le rfl) (jj_le rfl) (jj_le rfl) dX11_account_19 rfl (fun _ _ hX => hX.elim) (fun w1 r O_13 => ?_)
    obtain ⟨rfl, rfl⟩ := O_13
    refine jj_apd rfl ?_
    refine jj_if_eqT (tgt := 29) C dX11_account_22 (by decide) (by decide) ?_
    refine jj_aload_n C dX11_account_29 rfl ?_
    refine jj_get C jk_12 0 (by decide) jw_181 1 rfl rfl dX11_account_30 ?_
    refine jj_bipush (v := 10) C dX11_account_33 (by decide) ?_
    refine jj_iload_n C dX11_account_35 rfl ?_
    refine jj_iadd C dX11_account_36 rfl ?_
    rcases jj_em (a0 = 0) with rfl | n_14
    · show jj_J p l e _ s m args below meth c _ A _ (jj_X D A [(h1, .inl (cA 2, 334, .inr (.inl (vp_updL (vp_updL (fun _ => 0) 0 1) 4 100)))), (h0, .inr (12, [.ref h1, .ref h2, .ref h3, .ref h4, .ref h5, .ref h6, .int 0, .int 0, .long 0, .long 0, .ref h7, .ref h8, .ref h9, .int 0, .int 0, .int 0, .int 0, .int 0, .int (-1), .int 0, .int 0, .ref h10, .ref h11, .ref h12, .int 0]))]) _ _ 37 [(0, .ref h0), (1, .int 0)] [.int 10, .ref h1]
      refine jj_lald (v := 0) C 0 rfl (vp_in_iff.mpr (by decide)) rfl dX11_account_37 ?_
      exact jj_lret C (Or.inr (Or.inr (Or.inl ⟨c_6, c_7, rfl, rfl, rfl⟩))) dX11_account_38 (jj_le rfl) (jj_le rfl)
    rcases jj_em (a0 = 1) with rfl | n_15
    · show jj_J p l e _ s m args below meth c _ A _ (jj_X D A [(h1, .inl (cA 2, 334, .inr (.inl (vp_updL (vp_updL (fun _ => 0) 0 1) 4 100)))), (h0, .inr (12, [.ref h1, .ref h2, .ref h3, .ref h4, .ref h5, .ref h6, .int 0, .int 0, .long 0, .long 0, .ref h7, .ref h8, .ref h9, .int 0, .int 0, .int 0, .int 0, .int 0, .int (-1), .int 0, .int 0, .ref h10, .ref h11, .ref h12, .int 0]))]) _ _ 37 [(0, .ref h0), (1, .int 1)] [.int 11, .ref h1]
      refine jj_lald (v := 0) C 0 rfl (vp_in_iff.mpr (by decide)) rfl dX11_account_37 ?_
      exact jj_lret C (Or.inr (Or.inr (Or.inr (Or.inl ⟨c_6, c_7, rfl, rfl, rfl⟩)))) dX11_account_38 (jj_le rfl) (jj_le rfl)
    rcases jj_em (a0 = 2) with rfl | n_16
    · show jj_J p l e _ s m args below meth c _ A _ (jj_X D A [(h1, .inl (cA 2, 334, .inr (.inl (vp_updL (vp_updL (fun _ => 0) 0 1) 4 100)))), (h0, .inr (12, [.ref h1, .ref h2, .ref h3, .ref h4, .ref h5, .ref h6, .int 0, .int 0, .long 0, .long 0, .ref h7, .ref h8, .ref h9, .int 0, .int 0, .int 0, .int 0, .int 0, .int (-1), .int 0, .int 0, .ref h10, .ref h11, .ref h12, .int 0]))]) _ _ 37 [(0, .ref h0), (1, .int 2)] [.int 12, .ref h1]
      refine jj_lald (v := 0) C 0 rfl (vp_in_iff.mpr (by decide)) rfl dX11_account_37 ?_
      exact jj_lret C (Or.inr (Or.inr (Or.inr (Or.inr (Or.inl ⟨c_6, c_7, rfl, rfl, rfl⟩))))) dX11_account_38 (jj_le rfl) (jj_le rfl)
    rcases jj_em (a0 = 3) with rfl | n_17
    · show jj_J p l e _ s m args below meth c _ A _ (jj_X D A [(h1, .inl (cA 2, 334, .inr (.inl (vp_updL (vp_updL (fun _ => 0) 0 1) 4 100)))), (h0, .inr (12, [.ref h1, .ref h2, .ref h3, .ref h4, .ref h5, .ref h6, .int 0, .int 0, .long 0, .long 0, .ref h7, .ref h8, .ref h9, .int 0, .int 0, .int 0, .int 0, .int 0, .int (-1), .int 0, .int 0, .ref h10, .ref h11, .ref h12, .int 0]))]) _ _ 37 [(0, .ref h0), (1, .int 3)] [.int 13, .ref h1]
      refine jj_lald (v := 0) C 0 rfl (vp_in_iff.mpr (by decide)) rfl dX11_account_37 ?_
      exact jj_lret C (Or.inr (Or.inr (Or.inr (Or.inr (Or.inr (Or.inl ⟨c_6, c_7, rfl, rfl, rfl⟩)))))) dX11_account_38 (jj_le rfl) (jj_le rfl)
    rcases jj_em (a0 = 4) with rfl | n_18
    · show jj_J p l e _ s m args below meth c _ A _ (jj_X D A [(h1, .inl (cA 2, 334, .inr (.inl (vp_updL (vp_updL (fun _ => 0) 0 1) 4 100)))), (h0, .inr (12, [.ref h1, .ref h2, .ref h3, .ref h4, .ref h5, .ref h6, .int 0, .int 0, .long 0, .long 0, .ref h7, .ref h8, .ref h9, .int 0, .int 0, .int 0, .int 0, .int 0, .int (-1), .int 0, .int 0, .ref h10, .ref h11, .ref h12, .int 0]))]) _ _ 37 [(0, .ref h0), (1, .int 4)] [.int 14, .ref h1]
      refine jj_lald (v := 0) C 0 rfl (vp_in_iff.mpr (by decide)) rfl dX11_account_37 ?_
      exact jj_lret C (Or.inr (Or.inr (Or.inr (Or.inr (Or.inr (Or.inr (Or.inl ⟨c_6, c_7, rfl, rfl, rfl⟩))))))) dX11_account_38 (jj_le rfl) (jj_le rfl)
    rcases jj_em (a0 = 5) with rfl | n_19
    · show jj_J p l e _ s m args below meth c _ A _ (jj_X D A [(h1, .inl (cA 2, 334, .inr (.inl (vp_updL (vp_updL (fun _ => 0) 0 1) 4 100)))), (h0, .inr (12, [.ref h1, .ref h2, .ref h3, .ref h4, .ref h5, .ref h6, .int 0, .int 0, .long 0, .long 0, .ref h7, .ref h8, .ref h9, .int 0, .int 0, .int 0, .int 0, .int 0, .int (-1), .int 0, .int 0, .ref h10, .ref h11, .ref h12, .int 0]))]) _ _ 37 [(0, .ref h0), (1, .int 5)] [.int 15, .ref h1]
      refine jj_lald (v := 0) C 0 rfl (vp_in_iff.mpr (by decide)) rfl dX11_account_37 ?_
      exact jj_lret C (Or.inr (Or.inr (Or.inr (Or.inr (Or.inr (Or.inr (Or.inr ⟨c_6, c_7, rfl, rfl, rfl⟩))))))) dX11_account_38 (jj_le rfl) (jj_le rfl)
    exfalso; have z0 := lv_neT (a := 0) n_14 (by decide); have z1 := lv_neT (a := 1) n_15 (by decide); have z2 := lv_neT (a := 2) n_16 (by decide); have z3 := lv_neT (a := 3) n_17 (by decide); have z4 := lv_neT (a := 4) n_18 (by decide); have z5 := lv_neT (a := 5) n_19 (by decide); have y0 := jc_nltL (a := a0.toInt) (b := (0)) c_6 (Int32.toInt_toInt64 _) (by decide); have y1 := jc_leL (a := (0)) (b := a0.toInt) (by first | exact Int64.not_lt.mp c_6 | exact Int32.not_lt.mp c_6) (by decide) (Int32.toInt_toInt64 _); have y2 := jc_nltL (a := (5)) (b := a0.toInt) c_7 (by decide) (Int32.toInt_toInt64 _); have y3 := jc_leL (a := a0.toInt) (b := (5)) (by first | exact Int64.not_lt.mp c_7 | exact Int32.not_lt.mp c_7) (Int32.toInt_toInt64 _) (by decide); omega


set_option maxHeartbeats 4000000 in
set_option maxRecDepth 100000 in
theorem ct_X10_openSeries_1 {l : Launch} (hl : l.stackTraces = false) (D : va_G) (cA : Nat → ClassId) (ak : (Nat → Nat) × (Nat → Nat)) (h0 h1 h2 h3 h4 h5 h6 h7 h8 h9 h10 : Nat) (a0 : Int32) : jj_M l D cA ak yX10_openSeries (.code yX10_openSeries cX10_openSeries 2 (some .int)) 6 82 1 6 [(h0, .inr (11, [.ref h2, .int 0, .int (-1), .ref h1, .ref h3, .ref h4, .ref h5, .int 0, .int 0, .ref h6])), (h1, .inr (2, [.int 1, .int 0, .int 0, .int 0, .int 100, .int 0, .int 0, .int 0, .int 0, .int 0, .ref h7, .ref h8, .ref h9, .ref h10]))] [.ref h0, .int a0] (fun (w : va_W) (r : Option Value) => False) (fun (E : String) (w : va_W) => (E = "java/lang/IndexOutOfBoundsException" ∧ a0 < 0) ∨ (E = "java/lang/IndexOutOfBoundsException" ∧ ¬ a0 < 0)) := by
  refine jj_start hl (by decide) jw_487 (jj_le rfl) ?_
  intro p e s m args below meth c A hargs hA C hex hmn
  refine jj_iload_n C dX10_openSeries_0 rfl ?_
  refine jj_if_lt (tgt := 15) C dX10_openSeries_1 (by decide) (fun c_1 => ?_) (fun c_1 => ?_)
  · exact jj_throw (k := 44) (text := "no such index") C jt_RX10_200 jw_268 (by decide +kernel) dX10_openSeries_15 dX10_openSeries_18 dX10_openSeries_19 dX10_openSeries_21 dX10_openSeries_24 hex (jj_le rfl) (jj_le rfl) (jj_le rfl) (jj_le rfl) (Or.inl ⟨rfl, c_1⟩) (jj_le rfl) (jj_le rfl)
  · refine jj_iload_n C dX10_openSeries_4 rfl ?_
    refine jj_aload_n C dX10_openSeries_5 rfl ?_
    refine jj_get C jk_11 3 (by decide) jw_135 0 rfl rfl dX10_openSeries_6 ?_
    refine jj_get C jk_2 7 (by decide) jw_477 1 rfl rfl dX10_openSeries_9 ?_
    refine jj_icmp_ltF (tgt := 25) C dX10_openSeries_12 (by decide) c_1 ?_
    exact jj_throw (k := 44) (text := "no such index") C jt_RX10_200 jw_268 (by decide +kernel) dX10_openSeries_15 dX10_openSeries_18 dX10_openSeries_19 dX10_openSeries_21 dX10_openSeries_24 hex (jj_le rfl) (jj_le rfl) (jj_le rfl) (jj_le rfl) (Or.inr ⟨rfl, c_1⟩) (jj_le rfl) (jj_le rfl)


set_option maxHeartbeats 4000000 in
set_option maxRecDepth 100000 in
theorem ct_X11_openSeries_1 {l : Launch} (hl : l.stackTraces = false) (D : va_G) (cA : Nat → ClassId) (ak : (Nat → Nat) × (Nat → Nat)) (h0 h1 h2 h3 h4 h5 h6 h7 h8 h9 h10 h11 h12 : Nat) (a0 : Int32) : jj_M l D cA ak yX11_openSeries (.code yX11_openSeries cX11_openSeries 2 (some .int)) 1 25 0 0 [(h0, .inr (12, [.ref h1, .ref h2, .ref h3, .ref h4, .ref h5, .ref h6, .int 0, .int 0, .long 0, .long 0, .ref h7, .ref h8, .ref h9, .int 0, .int 0, .int 0, .int 0, .int 0, .int (-1), .int 0, .int 0, .ref h10, .ref h11, .ref h12, .int 0])), (h1, .inl (cA 2, 334, .inr (.inl (vp_updL (vp_updL (fun _ => 0) 0 1) 4 100))))] [.ref h0, .int a0] (fun (w : va_W) (r : Option Value) => (a0.toInt64 < 0 ∧ w = [(h1, .inl (cA 2, 334, .inr (.inl (vp_updL (vp_updL (fun _ => 0) 0 1) 4 100)))), (h0, .inr (12, [.ref h1, .ref h2, .ref h3, .ref h4, .ref h5, .ref h6, .int 0, .int 1, .long 0, .long 0, .ref h7, .ref h8, .ref h9, .int 0, .int 0, .int 0, .int 0, .int 0, .int (-1), .int 0, .int 0, .ref h10, .ref h11, .ref h12, .int 0]))] ∧ r = some (.int 0)) ∨ (¬ a0.toInt64 < 0 ∧ w = [(h1, .inl (cA 2, 334, .inr (.inl (vp_updL (vp_updL (fun _ => 0) 0 1) 4 100)))), (h0, .inr (12, [.ref h1, .ref h2, .ref h3, .ref h4, .ref h5, .ref h6, .int 0, .int 1, .long 0, .long 0, .ref h7, .ref h8, .ref h9, .int 0, .int 0, .int 0, .int 0, .int 0, .int (-1), .int 0, .int 0, .ref h10, .ref h11, .ref h12, .int 0]))] ∧ r = some (.int 0))) jj_noX := by
  refine jj_start hl (by decide) jw_488 (jj_le rfl) ?_
  intro p e s m args below meth c A hargs hA C hex hmn
  refine jj_aload_n C dX11_openSeries_0 rfl ?_
  refine jj_iload_n C dX11_openSeries_1 rfl ?_
  refine jj_i2l C dX11_openSeries_2 rfl ?_
  refine jj_lconst (v := 0) C dX11_openSeries_3 (by decide) ?_
  refine jj_aload_n C dX11_openSeries_4 rfl ?_
  refine jj_get C jk_12 0 (by decide) jw_181 0 rfl rfl dX11_openSeries_5 ?_
  refine jj_bipush (v := 6) C dX11_openSeries_8 (by decide) ?_
  refine jj_lald (v := 0) C 1 rfl (vp_in_iff.mpr (by decide)) rfl dX11_openSeries_10 ?_
  refine jj_lconst (v := 1) C dX11_openSeries_11 (by decide) ?_
  refine jj_lsub (v := (-1)) C dX11_openSeries_12 (by decide) ?_
  refine jq_callS (rest := [.ref h0]) C (ct_X11_in_4 hl D cA ak a0.toInt64) [] [0, 1] rfl rfl (by decide) (by decide) (by decide) jw_247 jw_248 jw_224 jw_246 jn_X11_in rfl (jj_le rfl) (jj_le rfl) (jj_le rfl) (jj_le rfl) (jj_le rfl) dX11_openSeries_13 rfl (fun _ _ hX => hX.elim) (fun w1 r O_2 => ?_)
  rcases O_2 with ⟨c_3, rfl, rfl⟩ | ⟨c_4, rfl, rfl⟩
  · refine jj_apd rfl ?_
    refine jj_if_neF (tgt := 23) C dX11_openSeries_16 (by decide) (by decide) ?_
    refine jj_iconst (v := 1) C dX11_openSeries_19 (by decide) ?_
    refine jj_goto (tgt := 24) C dX11_openSeries_20 (by decide) ?_
    refine jj_iconst (v := 1) C dX11_openSeries_24 (by decide) ?_
    refine jq_callV (rest := []) C (ct_X11_fails_1 hl D cA ak h0 h1 h2 h3 h4 h5 h6 h7 h8 h9 h10 h11 h12) [0] [1] rfl rfl (by decide) (by decide) (by decide) 0 rfl rfl rfl jw_306 jw_307 jw_308 jw_224 jw_305 jn_X11_fails rfl (jj_le rfl) (jj_le rfl) (jj_le rfl) (jj_le rfl) (jj_le rfl) dX11_openSeries_25 rfl (fun _ _ hX => hX.elim) (fun w1 r O_6 => ?_)
    obtain ⟨rfl, rfl⟩ := O_6
    refine jj_apd rfl ?_
    refine jj_if_eqF (tgt := 35) C dX11_openSeries_28 (by decide) (by decide) ?_
    refine jj_iconst (v := 0) C dX11_openSeries_31 (by decide) ?_
    refine jj_goto (tgt := 47) C dX11_openSeries_32 (by decide) ?_
    exact jj_iret C (Or.inl ⟨c_3, rfl, rfl⟩) dX11_openSeries_47 (jj_le rfl) (jj_le rfl)
  · refine jj_apd rfl ?_
    refine jj_if_neF (tgt := 23) C dX11_openSeries_16 (by decide) (by decide) ?_
    refine jj_iconst (v := 1) C dX11_openSeries_19 (by decide) ?_
    refine jj_goto (tgt := 24) C dX11_openSeries_20 (by decide) ?_
    refine jj_iconst (v := 1) C dX11_openSeries_24 (by decide) ?_
    refine jq_callV (rest := []) C (ct_X11_fails_1 hl D cA ak h0 h1 h2 h3 h4 h5 h6 h7 h8 h9 h10 h11 h12) [0] [1] rfl rfl (by decide) (by decide) (by decide) 0 rfl rfl rfl jw_306 jw_307 jw_308 jw_224 jw_305 jn_X11_fails rfl (jj_le rfl) (jj_le rfl) (jj_le rfl) (jj_le rfl) (jj_le rfl) dX11_openSeries_25 rfl (fun _ _ hX => hX.elim) (fun w1 r O_8 => ?_)
    obtain ⟨rfl, rfl⟩ := O_8
    refine jj_apd rfl ?_
    refine jj_if_eqF (tgt := 35) C dX11_openSeries_28 (by decide) (by decide) ?_
    refine jj_iconst (v := 0) C dX11_openSeries_31 (by decide) ?_
    refine jj_goto (tgt := 47) C dX11_openSeries_32 (by decide) ?_
    exact jj_iret C (Or.inr ⟨c_4, rfl, rfl⟩) dX11_openSeries_47 (jj_le rfl) (jj_le rfl)


set_option maxHeartbeats 4000000 in
set_option maxRecDepth 100000 in
theorem ct_X0_placeOfSeries_1 {l : Launch} (hl : l.stackTraces = false) (D : va_G) (cA : Nat → ClassId) (ak : (Nat → Nat) × (Nat → Nat)) (h0 h1 h2 h3 h4 : Nat) (a0 : Int32) : jj_M l D cA ak yX0_placeOfSeries (.code yX0_placeOfSeries cX0_placeOfSeries 3 (some .int)) 0 0 0 0 [(h0, .inr (2, [.int 1, .int 0, .int 0, .int 0, .int 100, .int 0, .int 0, .int 0, .int 0, .int 0, .ref h1, .ref h2, .ref h3, .ref h4]))] [.ref h0, .int a0] (fun (w : va_W) (r : Option Value) => (w = [(h0, .inr (2, [.int 1, .int 0, .int 0, .int 0, .int 100, .int 0, .int 0, .int 0, .int 0, .int 0, .ref h1, .ref h2, .ref h3, .ref h4]))] ∧ r = some (.int (-1)))) jj_noX := by
  refine jj_start hl (by decide) jw_490 (jj_le rfl) ?_
  intro p e s m args below meth c A hargs hA C hex hmn
  refine jj_iconst (v := 0) C dX0_placeOfSeries_0 (by decide) ?_
  refine jj_istore_n C dX0_placeOfSeries_1 (by decide) rfl ?_
  refine jj_iload_n C dX0_placeOfSeries_2 rfl ?_
  refine jj_aload_n C dX0_placeOfSeries_3 rfl ?_
  refine jj_get C jk_2 7 (by decide) jw_66 0 rfl rfl dX0_placeOfSeries_4 ?_
  refine jj_icmp_geT (tgt := 31) C dX0_placeOfSeries_7 (by decide) (by decide) ?_
  refine jj_iconst (v := (-1)) C dX0_placeOfSeries_31 (by decide) ?_
  exact jj_iret C ⟨rfl, rfl⟩ dX0_placeOfSeries_32 (jj_le rfl) (jj_le rfl)


set_option maxHeartbeats 4000000 in
set_option maxRecDepth 100000 in
theorem ct_X10_placeOf_1 {l : Launch} (hl : l.stackTraces = false) (D : va_G) (cA : Nat → ClassId) (ak : (Nat → Nat) × (Nat → Nat)) (h0 h1 h2 h3 h4 h5 h6 h7 h8 h9 h10 : Nat) (a0 : Int32) : jj_M l D cA ak yX10_placeOf (.code yX10_placeOf cX10_placeOf 3 (some .int)) 7 102 1 6 [(h0, .inr (11, [.ref h2, .int 0, .int (-1), .ref h1, .ref h3, .ref h4, .ref h5, .int 0, .int 0, .ref h6])), (h1, .inr (2, [.int 1, .int 0, .int 0, .int 0, .int 100, .int 0, .int 0, .int 0, .int 0, .int 0, .ref h7, .ref h8, .ref h9, .ref h10]))] [.ref h0, .int a0] (fun (w : va_W) (r : Option Value) => False) (fun (E : String) (w : va_W) => (E = "java/lang/IndexOutOfBoundsException")) := by
  refine jj_start hl (by decide) jw_495 (jj_le rfl) ?_
  intro p e s m args below meth c A hargs hA C hex hmn
  refine jj_aload_n C dX10_placeOf_0 rfl ?_
  refine jj_get C jk_11 3 (by decide) jw_135 0 rfl rfl dX10_placeOf_1 ?_
  refine jj_iload_n C dX10_placeOf_4 rfl ?_
  refine jq_callV (rest := []) C (ct_X0_placeOfSeries_1 hl D cA ak h1 h7 h8 h9 h10 a0) [1] [0] rfl rfl (by decide) (by decide) (by decide) 0 rfl rfl rfl jw_491 jw_492 jw_493 jw_57 jw_490 jn_X0_placeOfSeries rfl (jj_le rfl) (jj_le rfl) (jj_le rfl) (jj_le rfl) (jj_le rfl) dX10_placeOf_5 rfl (fun _ _ hX => hX.elim) (fun w1 r O_2 => ?_)
  obtain ⟨rfl, rfl⟩ := O_2
  refine jj_apd rfl ?_
  refine jj_istore_n C dX10_placeOf_8 (by decide) rfl ?_
  refine jj_iload_n C dX10_placeOf_9 rfl ?_
  refine jj_iconst (v := (-1)) C dX10_placeOf_10 (by decide) ?_
  refine jj_icmp_neF (tgt := 18) C dX10_placeOf_11 (by decide) (by decide) ?_
  refine jj_iconst (v := 1) C dX10_placeOf_14 (by decide) ?_
  refine jj_goto (tgt := 19) C dX10_placeOf_15 (by decide) ?_
  refine jq_callS (rest := []) C (ct_X10_refuse_1 hl D cA ak) [] [0, 1] rfl rfl (by decide) (by decide) (by decide) jw_270 jw_272 jw_271 jw_269 jn_X10_refuse rfl (jj_le rfl) (jj_le rfl) (jj_le rfl) (jj_le rfl) (jj_le rfl) dX10_placeOf_19 rfl (fun E w1 X_3 => ?_) (fun w1 r O_4 => ?_)
  · obtain rfl := X_3
    refine jj_leftY ?_
    exact jj_out C hex rfl (jj_le rfl) (jj_le rfl)
  · exact O_4.elim


set_option maxHeartbeats 4000000 in
set_option maxRecDepth 100000 in
theorem ct_X10_seriesValue_1 {l : Launch} (hl : l.stackTraces = false) (D : va_G) (cA : Nat → ClassId) (ak : (Nat → Nat) × (Nat → Nat)) (h0 h1 h2 h3 h4 h5 h6 h7 h8 h9 h10 : Nat) (a0 : Int32) (a1 : Int32) : jj_M l D cA ak yX10_seriesValue (.code yX10_seriesValue cX10_seriesValue 4 (some .long)) 8 124 1 6 [(h0, .inr (11, [.ref h2, .int 0, .int (-1), .ref h1, .ref h3, .ref h4, .ref h5, .int 0, .int 0, .ref h6])), (h1, .inr (2, [.int 1, .int 0, .int 0, .int 0, .int 100, .int 0, .int 0, .int 0, .int 0, .int 0, .ref h7, .ref h8, .ref h9, .ref h10]))] [.ref h0, .int a0, .int a1] (fun (w : va_W) (r : Option Value) => False) (fun (E : String) (w : va_W) => (E = "java/lang/IndexOutOfBoundsException")) := by
  refine jj_start hl (by decide) jw_500 (jj_le rfl) ?_
  intro p e s m args below meth c A hargs hA C hex hmn
  refine jj_aload_n C dX10_seriesValue_0 rfl ?_
  refine jj_get C jk_11 3 (by decide) jw_135 0 rfl rfl dX10_seriesValue_1 ?_
  refine jj_get C jk_2 11 (by decide) jw_489 1 rfl rfl dX10_seriesValue_4 ?_
  refine jj_aload_n C dX10_seriesValue_7 rfl ?_
  refine jj_iload_n C dX10_seriesValue_8 rfl ?_
  refine jq_callV (rest := [.ref h8]) C (ct_X10_placeOf_1 hl D cA ak h0 h1 h2 h3 h4 h5 h6 h7 h8 h9 h10 a0) [0, 1] [] rfl rfl (by decide) (by decide) (by decide) 0 rfl rfl rfl jw_496 jw_497 jw_498 jw_271 jw_495 jn_X10_placeOf rfl (jj_le rfl) (jj_le rfl) (jj_le rfl) (jj_le rfl) (jj_le rfl) dX10_seriesValue_9 rfl (fun E w1 X_1 => ?_) (fun w1 r O_2 => ?_)
  · obtain rfl := X_1
    refine jj_leftY ?_
    exact jj_out C hex rfl (jj_le rfl) (jj_le rfl)
  · exact O_2.elim


set_option maxHeartbeats 4000000 in
set_option maxRecDepth 100000 in
theorem ct_X11_placeOf_1 {l : Launch} (hl : l.stackTraces = false) (D : va_G) (cA : Nat → ClassId) (ak : (Nat → Nat) × (Nat → Nat)) (h0 h1 h2 h3 h4 h5 h6 h7 h8 h9 h10 h11 h12 : Nat) (b0 : Int64) : jj_M l D cA ak yX11_placeOf (.code yX11_placeOf cX11_placeOf 4 (some .int)) 0 0 0 0 [(h0, .inr (12, [.ref h1, .ref h2, .ref h3, .ref h4, .ref h5, .ref h6, .int 0, .int 0, .long 0, .long 0, .ref h7, .ref h8, .ref h9, .int 0, .int 0, .int 0, .int 0, .int 0, .int (-1), .int 0, .int 0, .ref h10, .ref h11, .ref h12, .int 0])), (h1, .inl (cA 2, 334, .inr (.inl (vp_updL (vp_updL (fun _ => 0) 0 1) 4 100))))] [.ref h0, .long b0] (fun (w : va_W) (r : Option Value) => (w = [(h0, .inr (12, [.ref h1, .ref h2, .ref h3, .ref h4, .ref h5, .ref h6, .int 0, .int 0, .long 0, .long 0, .ref h7, .ref h8, .ref h9, .int 0, .int 0, .int 0, .int 0, .int 0, .int (-1), .int 0, .int 0, .ref h10, .ref h11, .ref h12, .int 0])), (h1, .inl (cA 2, 334, .inr (.inl (vp_updL (vp_updL (fun _ => 0) 0 1) 4 100))))] ∧ r = some (.int (-1)))) jj_noX := by
  refine jj_start hl (by decide) jw_501 (jj_le rfl) ?_
  intro p e s m args below meth c A hargs hA C hex hmn
  refine jj_iconst (v := 0) C dX11_placeOf_0 (by decide) ?_
  refine jj_istore_n C dX11_placeOf_1 (by decide) rfl ?_
  refine jj_iload_n C dX11_placeOf_2 rfl ?_
  refine jj_i2l (v := 0) C dX11_placeOf_3 (by decide) ?_
  refine jj_aload_n C dX11_placeOf_4 rfl ?_
  refine jj_get C jk_12 0 (by decide) jw_181 0 rfl rfl dX11_placeOf_5 ?_
  refine jj_bipush (v := 6) C dX11_placeOf_8 (by decide) ?_
  refine jj_lald (v := 0) C 1 rfl (vp_in_iff.mpr (by decide)) rfl dX11_placeOf_10 ?_
  refine jj_lcmp_geT (tgt := 42) C dX11_placeOf_11 dX11_placeOf_12 (by decide) (by decide) ?_
  refine jj_iconst (v := (-1)) C dX11_placeOf_42 (by decide) ?_
  exact jj_iret C ⟨rfl, rfl⟩ dX11_placeOf_43 (jj_le rfl) (jj_le rfl)


set_option maxHeartbeats 4000000 in
set_option maxRecDepth 100000 in
theorem ct_X11_seriesValue_1 {l : Launch} (hl : l.stackTraces = false) (D : va_G) (cA : Nat → ClassId) (ak : (Nat → Nat) × (Nat → Nat)) (h0 h1 h2 h3 h4 h5 h6 h7 h8 h9 h10 h11 h12 : Nat) (a0 : Int32) (a1 : Int32) : jj_M l D cA ak yX11_seriesValue (.code yX11_seriesValue cX11_seriesValue 4 (some .long)) 1 23 0 0 [(h0, .inr (12, [.ref h1, .ref h2, .ref h3, .ref h4, .ref h5, .ref h6, .int 0, .int 0, .long 0, .long 0, .ref h7, .ref h8, .ref h9, .int 0, .int 0, .int 0, .int 0, .int 0, .int (-1), .int 0, .int 0, .ref h10, .ref h11, .ref h12, .int 0])), (h1, .inl (cA 2, 334, .inr (.inl (vp_updL (vp_updL (fun _ => 0) 0 1) 4 100))))] [.ref h0, .int a0, .int a1] (fun (w : va_W) (r : Option Value) => (w = [(h1, .inl (cA 2, 334, .inr (.inl (vp_updL (vp_updL (fun _ => 0) 0 1) 4 100)))), (h0, .inr (12, [.ref h1, .ref h2, .ref h3, .ref h4, .ref h5, .ref h6, .int 0, .int 1, .long 0, .long 0, .ref h7, .ref h8, .ref h9, .int 0, .int 0, .int 0, .int 0, .int 0, .int (-1), .int 0, .int 0, .ref h10, .ref h11, .ref h12, .int 0]))] ∧ r = some (.long 0))) jj_noX := by
  refine jj_start hl (by decide) jw_506 (jj_le rfl) ?_
  intro p e s m args below meth c A hargs hA C hex hmn
  refine jj_aload_n C dX11_seriesValue_0 rfl ?_
  refine jj_iload_n C dX11_seriesValue_1 rfl ?_
  refine jj_i2l C dX11_seriesValue_2 rfl ?_
  refine jq_callV (rest := []) C (ct_X11_placeOf_1 hl D cA ak h0 h1 h2 h3 h4 h5 h6 h7 h8 h9 h10 h11 h12 a0.toInt64) [0, 1] [] rfl rfl (by decide) (by decide) (by decide) 0 rfl rfl rfl jw_502 jw_503 jw_504 jw_224 jw_501 jn_X11_placeOf rfl (jj_le rfl) (jj_le rfl) (jj_le rfl) (jj_le rfl) (jj_le rfl) dX11_seriesValue_3 rfl (fun _ _ hX => hX.elim) (fun w1 r O_2 => ?_)
  obtain ⟨rfl, rfl⟩ := O_2
  refine jj_apd rfl ?_
  refine jj_istore_n C dX11_seriesValue_6 (by decide) rfl ?_
  refine jj_aload_n C dX11_seriesValue_7 rfl ?_
  refine jj_iload_n C dX11_seriesValue_8 rfl ?_
  refine jj_iconst (v := (-1)) C dX11_seriesValue_9 (by decide) ?_
  refine jj_icmp_neF (tgt := 17) C dX11_seriesValue_10 (by decide) (by decide) ?_
  refine jj_iconst (v := 1) C dX11_seriesValue_13 (by decide) ?_
  refine jj_goto (tgt := 18) C dX11_seriesValue_14 (by decide) ?_
  refine jj_iconst (v := 1) C dX11_seriesValue_18 (by decide) ?_
  refine jq_callV (rest := []) C (ct_X11_fails_1 hl D cA ak h0 h1 h2 h3 h4 h5 h6 h7 h8 h9 h10 h11 h12) [0] [1] rfl rfl (by decide) (by decide) (by decide) 0 rfl rfl rfl jw_306 jw_307 jw_308 jw_224 jw_305 jn_X11_fails rfl (jj_le rfl) (jj_le rfl) (jj_le rfl) (jj_le rfl) (jj_le rfl) dX11_seriesValue_19 rfl (fun _ _ hX => hX.elim) (fun w1 r O_4 => ?_)
  obtain ⟨rfl, rfl⟩ := O_4
  refine jj_apd rfl ?_
  refine jj_if_neT (tgt := 50) C dX11_seriesValue_22 (by decide) (by decide) ?_
  refine jj_lconst (v := 0) C dX11_seriesValue_50 (by decide) ?_
  exact jj_lret C ⟨rfl, rfl⟩ dX11_seriesValue_51 (jj_le rfl) (jj_le rfl)


set_option maxHeartbeats 4000000 in
set_option maxRecDepth 100000 in
theorem ct_X10_lot_1 {l : Launch} (hl : l.stackTraces = false) (D : va_G) (cA : Nat → ClassId) (ak : (Nat → Nat) × (Nat → Nat)) (h0 h1 h2 h3 h4 h5 h6 h7 h8 h9 h10 : Nat) (a0 : Int32) (a1 : Int32) : jj_M l D cA ak yX10_lot (.code yX10_lot cX10_lot 4 (some .long)) 6 82 1 6 [(h0, .inr (11, [.ref h2, .int 0, .int (-1), .ref h1, .ref h3, .ref h4, .ref h5, .int 0, .int 0, .ref h6])), (h1, .inr (2, [.int 1, .int 0, .int 0, .int 0, .int 100, .int 0, .int 0, .int 0, .int 0, .int 0, .ref h7, .ref h8, .ref h9, .ref h10]))] [.ref h0, .int a0, .int a1] (fun (w : va_W) (r : Option Value) => False) (fun (E : String) (w : va_W) => (E = "java/lang/IndexOutOfBoundsException" ∧ a0 < 0) ∨ (E = "java/lang/IndexOutOfBoundsException" ∧ ¬ a0 < 0)) := by
  refine jj_start hl (by decide) jw_507 (jj_le rfl) ?_
  intro p e s m args below meth c A hargs hA C hex hmn
  refine jj_iload_n C dX10_lot_0 rfl ?_
  refine jj_if_lt (tgt := 15) C dX10_lot_1 (by decide) (fun c_1 => ?_) (fun c_1 => ?_)
  · exact jj_throwW (k := 46) (text := "no such lot") C jt_RX10_200 jw_268 (by decide +kernel) dX10_lot_15 dX10_lot_18 dX10_lot_19 dX10_lot_22 dX10_lot_25 hex (jj_le rfl) (jj_le rfl) (jj_le rfl) (jj_le rfl) (Or.inl ⟨rfl, c_1⟩) (jj_le rfl) (jj_le rfl)
  · refine jj_iload_n C dX10_lot_4 rfl ?_
    refine jj_aload_n C dX10_lot_5 rfl ?_
    refine jj_get C jk_11 3 (by decide) jw_135 0 rfl rfl dX10_lot_6 ?_
    refine jj_get C jk_2 8 (by decide) jw_478 1 rfl rfl dX10_lot_9 ?_
    refine jj_icmp_ltF (tgt := 26) C dX10_lot_12 (by decide) c_1 ?_
    exact jj_throwW (k := 46) (text := "no such lot") C jt_RX10_200 jw_268 (by decide +kernel) dX10_lot_15 dX10_lot_18 dX10_lot_19 dX10_lot_22 dX10_lot_25 hex (jj_le rfl) (jj_le rfl) (jj_le rfl) (jj_le rfl) (Or.inr ⟨rfl, c_1⟩) (jj_le rfl) (jj_le rfl)


set_option maxHeartbeats 4000000 in
set_option maxRecDepth 100000 in
theorem ct_X11_lot_1 {l : Launch} (hl : l.stackTraces = false) (D : va_G) (cA : Nat → ClassId) (ak : (Nat → Nat) × (Nat → Nat)) (h0 h1 h2 h3 h4 h5 h6 h7 h8 h9 h10 h11 h12 : Nat) (a0 : Int32) (a1 : Int32) : jj_M l D cA ak yX11_lot (.code yX11_lot cX11_lot 3 (some .long)) 1 25 0 0 [(h0, .inr (12, [.ref h1, .ref h2, .ref h3, .ref h4, .ref h5, .ref h6, .int 0, .int 0, .long 0, .long 0, .ref h7, .ref h8, .ref h9, .int 0, .int 0, .int 0, .int 0, .int 0, .int (-1), .int 0, .int 0, .ref h10, .ref h11, .ref h12, .int 0])), (h1, .inl (cA 2, 334, .inr (.inl (vp_updL (vp_updL (fun _ => 0) 0 1) 4 100))))] [.ref h0, .int a0, .int a1] (fun (w : va_W) (r : Option Value) => (a0.toInt64 < 0 ∧ w = [(h1, .inl (cA 2, 334, .inr (.inl (vp_updL (vp_updL (fun _ => 0) 0 1) 4 100)))), (h0, .inr (12, [.ref h1, .ref h2, .ref h3, .ref h4, .ref h5, .ref h6, .int 0, .int 1, .long 0, .long 0, .ref h7, .ref h8, .ref h9, .int 0, .int 0, .int 0, .int 0, .int 0, .int (-1), .int 0, .int 0, .ref h10, .ref h11, .ref h12, .int 0]))] ∧ r = some (.long 0)) ∨ (¬ a0.toInt64 < 0 ∧ w = [(h1, .inl (cA 2, 334, .inr (.inl (vp_updL (vp_updL (fun _ => 0) 0 1) 4 100)))), (h0, .inr (12, [.ref h1, .ref h2, .ref h3, .ref h4, .ref h5, .ref h6, .int 0, .int 1, .long 0, .long 0, .ref h7, .ref h8, .ref h9, .int 0, .int 0, .int 0, .int 0, .int 0, .int (-1), .int 0, .int 0, .ref h10, .ref h11, .ref h12, .int 0]))] ∧ r = some (.long 0))) jj_noX := by
  refine jj_start hl (by decide) jw_508 (jj_le rfl) ?_
  intro p e s m args below meth c A hargs hA C hex hmn
  refine jj_aload_n C dX11_lot_0 rfl ?_
  refine jj_iload_n C dX11_lot_1 rfl ?_
  refine jj_i2l C dX11_lot_2 rfl ?_
  refine jj_lconst (v := 0) C dX11_lot_3 (by decide) ?_
  refine jj_aload_n C dX11_lot_4 rfl ?_
  refine jj_get C jk_12 0 (by decide) jw_181 0 rfl rfl dX11_lot_5 ?_
  refine jj_bipush (v := 7) C dX11_lot_8 (by decide) ?_
  refine jj_lald (v := 0) C 1 rfl (vp_in_iff.mpr (by decide)) rfl dX11_lot_10 ?_
  refine jj_lconst (v := 1) C dX11_lot_11 (by decide) ?_
  refine jj_lsub (v := (-1)) C dX11_lot_12 (by decide) ?_
  refine jq_callS (rest := [.ref h0]) C (ct_X11_in_4 hl D cA ak a0.toInt64) [] [0, 1] rfl rfl (by decide) (by decide) (by decide) jw_247 jw_248 jw_224 jw_246 jn_X11_in rfl (jj_le rfl) (jj_le rfl) (jj_le rfl) (jj_le rfl) (jj_le rfl) dX11_lot_13 rfl (fun _ _ hX => hX.elim) (fun w1 r O_2 => ?_)
  rcases O_2 with ⟨c_3, rfl, rfl⟩ | ⟨c_4, rfl, rfl⟩
  · refine jj_apd rfl ?_
    refine jj_if_neF (tgt := 23) C dX11_lot_16 (by decide) (by decide) ?_
    refine jj_iconst (v := 1) C dX11_lot_19 (by decide) ?_
    refine jj_goto (tgt := 24) C dX11_lot_20 (by decide) ?_
    refine jj_iconst (v := 1) C dX11_lot_24 (by decide) ?_
    refine jq_callV (rest := []) C (ct_X11_fails_1 hl D cA ak h0 h1 h2 h3 h4 h5 h6 h7 h8 h9 h10 h11 h12) [0] [1] rfl rfl (by decide) (by decide) (by decide) 0 rfl rfl rfl jw_306 jw_307 jw_308 jw_224 jw_305 jn_X11_fails rfl (jj_le rfl) (jj_le rfl) (jj_le rfl) (jj_le rfl) (jj_le rfl) dX11_lot_25 rfl (fun _ _ hX => hX.elim) (fun w1 r O_6 => ?_)
    obtain ⟨rfl, rfl⟩ := O_6
    refine jj_apd rfl ?_
    refine jj_if_neT (tgt := 56) C dX11_lot_28 (by decide) (by decide) ?_
    refine jj_lconst (v := 0) C dX11_lot_56 (by decide) ?_
    refine jj_goto (tgt := 71) C dX11_lot_57 (by decide) ?_
    exact jj_lret C (Or.inl ⟨c_3, rfl, rfl⟩) dX11_lot_71 (jj_le rfl) (jj_le rfl)
  · refine jj_apd rfl ?_
    refine jj_if_neF (tgt := 23) C dX11_lot_16 (by decide) (by decide) ?_
    refine jj_iconst (v := 1) C dX11_lot_19 (by decide) ?_
    refine jj_goto (tgt := 24) C dX11_lot_20 (by decide) ?_
    refine jj_iconst (v := 1) C dX11_lot_24 (by decide) ?_
    refine jq_callV (rest := []) C (ct_X11_fails_1 hl D cA ak h0 h1 h2 h3 h4 h5 h6 h7 h8 h9 h10 h11 h12) [0] [1] rfl rfl (by decide) (by decide) (by decide) 0 rfl rfl rfl jw_306 jw_307 jw_308 jw_224 jw_305 jn_X11_fails rfl (jj_le rfl) (jj_le rfl) (jj_le rfl) (jj_le rfl) (jj_le rfl) dX11_lot_25 rfl (fun _ _ hX => hX.elim) (fun w1 r O_8 => ?_)
    obtain ⟨rfl, rfl⟩ := O_8
    refine jj_apd rfl ?_
    refine jj_if_neT (tgt := 56) C dX11_lot_28 (by decide) (by decide) ?_
    refine jj_lconst (v := 0) C dX11_lot_56 (by decide) ?_
    refine jj_goto (tgt := 71) C dX11_lot_57 (by decide) ?_
    exact jj_lret C (Or.inr ⟨c_4, rfl, rfl⟩) dX11_lot_71 (jj_le rfl) (jj_le rfl)


set_option maxHeartbeats 4000000 in
set_option maxRecDepth 100000 in
theorem ct_X10_request_1 {l : Launch} (hl : l.stackTraces = false) (D : va_G) (cA : Nat → ClassId) (ak : (Nat → Nat) × (Nat → Nat)) (h0 h1 h2 h3 h4 h5 h6 h7 h8 h9 h10 : Nat) (a0 : Int32) (a1 : Int32) : jj_M l D cA ak yX10_request (.code yX10_request cX10_request 4 (some .long)) 8 123 1 6 [(h0, .inr (11, [.ref h2, .int 0, .int (-1), .ref h1, .ref h3, .ref h4, .ref h5, .int 0, .int 0, .ref h6])), (h1, .inr (2, [.int 1, .int 0, .int 0, .int 0, .int 100, .int 0, .int 0, .int 0, .int 0, .int 0, .ref h7, .ref h8, .ref h9, .ref h10]))] [.ref h0, .int a0, .int a1] (fun (w : va_W) (r : Option Value) => False) (fun (E : String) (w : va_W) => (E = "java/lang/IndexOutOfBoundsException" ∧ a0 < 0) ∨ (E = "java/lang/IndexOutOfBoundsException" ∧ ¬ a0 < 0)) := by
  refine jj_start hl (by decide) jw_509 (jj_le rfl) ?_
  intro p e s m args below meth c A hargs hA C hex hmn
  refine jj_aload_n C dX10_request_0 rfl ?_
  refine jj_iload_n C dX10_request_1 rfl ?_
  refine jq_callV (rest := []) C (ct_X10_checkRequest_1 hl D cA ak h0 h1 h2 h3 h4 h5 h6 h7 h8 h9 h10 a0) [0, 1] [] rfl rfl (by decide) (by decide) (by decide) 0 rfl rfl rfl jw_393 jw_394 jw_395 jw_271 jw_392 jn_X10_checkRequest rfl (jj_le rfl) (jj_le rfl) (jj_le rfl) (jj_le rfl) (jj_le rfl) dX10_request_2 rfl (fun E w1 X_1 => ?_) (fun w1 r O_2 => ?_)
  · rcases X_1 with ⟨rfl, c_3⟩ | ⟨rfl, c_4⟩
    · refine jj_leftY ?_
      exact jj_out C hex (Or.inl ⟨rfl, c_3⟩) (jj_le rfl) (jj_le rfl)
    · refine jj_leftY ?_
      exact jj_out C hex (Or.inr ⟨rfl, c_4⟩) (jj_le rfl) (jj_le rfl)
  · exact O_2.elim


set_option maxHeartbeats 4000000 in
set_option maxRecDepth 100000 in
theorem ct_X11_request_1 {l : Launch} (hl : l.stackTraces = false) (D : va_G) (cA : Nat → ClassId) (ak : (Nat → Nat) × (Nat → Nat)) (h0 h1 h2 h3 h4 h5 h6 h7 h8 h9 h10 h11 h12 : Nat) (a0 : Int32) (a1 : Int32) : jj_M l D cA ak yX11_request (.code yX11_request cX11_request 3 (some .long)) 2 46 0 0 [(h0, .inr (12, [.ref h1, .ref h2, .ref h3, .ref h4, .ref h5, .ref h6, .int 0, .int 0, .long 0, .long 0, .ref h7, .ref h8, .ref h9, .int 0, .int 0, .int 0, .int 0, .int 0, .int (-1), .int 0, .int 0, .ref h10, .ref h11, .ref h12, .int 0])), (h1, .inl (cA 2, 334, .inr (.inl (vp_updL (vp_updL (fun _ => 0) 0 1) 4 100))))] [.ref h0, .int a0, .int a1] (fun (w : va_W) (r : Option Value) => (a0.toInt64 < 0 ∧ w = [(h1, .inl (cA 2, 334, .inr (.inl (vp_updL (vp_updL (fun _ => 0) 0 1) 4 100)))), (h0, .inr (12, [.ref h1, .ref h2, .ref h3, .ref h4, .ref h5, .ref h6, .int 0, .int 1, .long 0, .long 0, .ref h7, .ref h8, .ref h9, .int 0, .int 0, .int 0, .int 0, .int 0, .int (-1), .int 0, .int 0, .ref h10, .ref h11, .ref h12, .int 0]))] ∧ r = some (.long 0)) ∨ (¬ a0.toInt64 < 0 ∧ w = [(h1, .inl (cA 2, 334, .inr (.inl (vp_updL (vp_updL (fun _ => 0) 0 1) 4 100)))), (h0, .inr (12, [.ref h1, .ref h2, .ref h3, .ref h4, .ref h5, .ref h6, .int 0, .int 1, .long 0, .long 0, .ref h7, .ref h8, .ref h9, .int 0, .int 0, .int 0, .int 0, .int 0, .int (-1), .int 0, .int 0, .ref h10, .ref h11, .ref h12, .int 0]))] ∧ r = some (.long 0))) jj_noX := by
  refine jj_start hl (by decide) jw_510 (jj_le rfl) ?_
  intro p e s m args below meth c A hargs hA C hex hmn
  refine jj_aload_n C dX11_request_0 rfl ?_
  refine jj_iload_n C dX11_request_1 rfl ?_
  refine jq_callV (rest := []) C (ct_X11_isNoRequest_1 hl D cA ak h0 h1 h2 h3 h4 h5 h6 h7 h8 h9 h10 h11 h12 a0) [0, 1] [] rfl rfl (by decide) (by decide) (by decide) 0 rfl rfl rfl jw_399 jw_400 jw_401 jw_224 jw_398 jn_X11_isNoRequest rfl (jj_le rfl) (jj_le rfl) (jj_le rfl) (jj_le rfl) (jj_le rfl) dX11_request_2 rfl (fun _ _ hX => hX.elim) (fun w1 r O_2 => ?_)
  rcases O_2 with ⟨c_3, rfl, rfl⟩ | ⟨c_4, rfl, rfl⟩
  · refine jj_apd rfl ?_
    refine jj_if_neT (tgt := 33) C dX11_request_5 (by decide) (by decide) ?_
    refine jj_lconst (v := 0) C dX11_request_33 (by decide) ?_
    refine jj_goto (tgt := 48) C dX11_request_34 (by decide) ?_
    exact jj_lret C (Or.inl ⟨c_3, rfl, rfl⟩) dX11_request_48 (jj_le rfl) (jj_le rfl)
  · refine jj_apd rfl ?_
    refine jj_if_neT (tgt := 33) C dX11_request_5 (by decide) (by decide) ?_
    refine jj_lconst (v := 0) C dX11_request_33 (by decide) ?_
    refine jj_goto (tgt := 48) C dX11_request_34 (by decide) ?_
    exact jj_lret C (Or.inr ⟨c_4, rfl, rfl⟩) dX11_request_48 (jj_le rfl) (jj_le rfl)


set_option maxHeartbeats 4000000 in
set_option maxRecDepth 100000 in
theorem ct_X10_checkInvestor_1 {l : Launch} (hl : l.stackTraces = false) (D : va_G) (cA : Nat → ClassId) (ak : (Nat → Nat) × (Nat → Nat)) (h0 h1 h2 h3 h4 h5 h6 h7 h8 h9 h10 : Nat) (a0 : Int32) : jj_M l D cA ak yX10_checkInvestor (.code yX10_checkInvestor cX10_checkInvestor 2 none) 7 102 1 6 [(h0, .inr (11, [.ref h2, .int 0, .int (-1), .ref h1, .ref h3, .ref h4, .ref h5, .int 0, .int 0, .ref h6])), (h1, .inr (2, [.int 1, .int 0, .int 0, .int 0, .int 100, .int 0, .int 0, .int 0, .int 0, .int 0, .ref h7, .ref h8, .ref h9, .ref h10]))] [.ref h0, .int a0] (fun (w : va_W) (r : Option Value) => (¬ a0 < 0 ∧ ¬ 1 ≤ a0 ∧ w = [(h0, .inr (11, [.ref h2, .int 0, .int (-1), .ref h1, .ref h3, .ref h4, .ref h5, .int 0, .int 0, .ref h6])), (h1, .inr (2, [.int 1, .int 0, .int 0, .int 0, .int 100, .int 0, .int 0, .int 0, .int 0, .int 0, .ref h7, .ref h8, .ref h9, .ref h10]))] ∧ r = none)) (fun (E : String) (w : va_W) => (E = "java/lang/IndexOutOfBoundsException" ∧ a0 < 0) ∨ (E = "java/lang/IndexOutOfBoundsException" ∧ ¬ a0 < 0 ∧ 1 ≤ a0)) := by
  refine jj_start hl (by decide) jw_512 (jj_le rfl) ?_
  intro p e s m args below meth c A hargs hA C hex hmn
  refine jj_aload_n C dX10_checkInvestor_0 rfl ?_
  refine jj_get C jk_11 3 (by decide) jw_135 0 rfl rfl dX10_checkInvestor_1 ?_
  refine jj_iload_n C dX10_checkInvestor_4 rfl ?_
  refine jq_callV (rest := []) C (ct_X0_hasInvestor_1 hl D cA ak h1 h7 h8 h9 h10 a0) [1] [0] rfl rfl (by decide) (by decide) (by decide) 0 rfl rfl rfl jw_511 jw_258 jw_259 jw_57 jw_256 jn_X0_hasInvestor rfl (jj_le rfl) (jj_le rfl) (jj_le rfl) (jj_le rfl) (jj_le rfl) dX10_checkInvestor_5 rfl (fun _ _ hX => hX.elim) (fun w1 r O_2 => ?_)
  rcases O_2 with ⟨c_3, rfl, rfl⟩ | ⟨c_4, c_5, rfl, rfl⟩ | ⟨c_6, c_7, rfl, rfl⟩
  · refine jj_apd rfl ?_
    refine jj_if_eqT (tgt := 15) C dX10_checkInvestor_8 (by decide) (by decide) ?_
    refine jj_iconst (v := 1) C dX10_checkInvestor_15 (by decide) ?_
    refine jq_callS (rest := []) C (ct_X10_refuse_1 hl D cA ak) [] [0, 1] rfl rfl (by decide) (by decide) (by decide) jw_270 jw_272 jw_271 jw_269 jn_X10_refuse rfl (jj_le rfl) (jj_le rfl) (jj_le rfl) (jj_le rfl) (jj_le rfl) dX10_checkInvestor_16 rfl (fun E w1 X_8 => ?_) (fun w1 r O_9 => ?_)
    · obtain rfl := X_8
      refine jj_leftY ?_
      exact jj_out C hex (Or.inl ⟨rfl, c_3⟩) (jj_le rfl) (jj_le rfl)
    · exact O_9.elim
  · refine jj_apd rfl ?_
    refine jj_if_eqT (tgt := 15) C dX10_checkInvestor_8 (by decide) (by decide) ?_
    refine jj_iconst (v := 1) C dX10_checkInvestor_15 (by decide) ?_
    refine jq_callS (rest := []) C (ct_X10_refuse_1 hl D cA ak) [] [0, 1] rfl rfl (by decide) (by decide) (by decide) jw_270 jw_272 jw_271 jw_269 jn_X10_refuse rfl (jj_le rfl) (jj_le rfl) (jj_le rfl) (jj_le rfl) (jj_le rfl) dX10_checkInvestor_16 rfl (fun E w1 X_10 => ?_) (fun w1 r O_11 => ?_)
    · obtain rfl := X_10
      refine jj_leftY ?_
      exact jj_out C hex (Or.inr ⟨rfl, c_4, c_5⟩) (jj_le rfl) (jj_le rfl)
    · exact O_11.elim
  · refine jj_apd rfl ?_
    refine jj_if_eqF (tgt := 15) C dX10_checkInvestor_8 (by decide) (by decide) ?_
    refine jj_iconst (v := 0) C dX10_checkInvestor_11 (by decide) ?_
    refine jj_goto (tgt := 16) C dX10_checkInvestor_12 (by decide) ?_
    refine jq_callS (rest := []) C (ct_X10_refuse_3 hl D cA ak) [] [0, 1] rfl rfl (by decide) (by decide) (by decide) jw_270 jw_272 jw_271 jw_269 jn_X10_refuse rfl (jj_le rfl) (jj_le rfl) (jj_le rfl) (jj_le rfl) (jj_le rfl) dX10_checkInvestor_16 rfl (fun _ _ hX => hX.elim) (fun w1 r O_13 => ?_)
    obtain ⟨rfl, rfl⟩ := O_13
    refine jj_apd rfl ?_
    exact jj_vret C ⟨c_6, c_7, rfl, rfl⟩ dX10_checkInvestor_19 (jj_le rfl) (jj_le rfl)


set_option maxHeartbeats 4000000 in
set_option maxRecDepth 100000 in
theorem ct_X10_unitsOf_1 {l : Launch} (hl : l.stackTraces = false) (D : va_G) (cA : Nat → ClassId) (ak : (Nat → Nat) × (Nat → Nat)) (h0 h1 h2 h3 h4 h5 h6 h7 h8 h9 h10 : Nat) (a0 : Int32) : jj_M l D cA ak yX10_unitsOf (.code yX10_unitsOf cX10_unitsOf 2 (some .long)) 8 123 1 6 [(h0, .inr (11, [.ref h2, .int 0, .int (-1), .ref h1, .ref h3, .ref h4, .ref h5, .int 0, .int 0, .ref h6])), (h1, .inr (2, [.int 1, .int 0, .int 0, .int 0, .int 100, .int 0, .int 0, .int 0, .int 0, .int 0, .ref h7, .ref h8, .ref h9, .ref h10]))] [.ref h0, .int a0] (fun (w : va_W) (r : Option Value) => (¬ a0 < 0 ∧ ¬ 1 ≤ a0 ∧ r = some (.long 0))) (fun (E : String) (w : va_W) => (E = "java/lang/IndexOutOfBoundsException" ∧ a0 < 0) ∨ (E = "java/lang/IndexOutOfBoundsException" ∧ ¬ a0 < 0 ∧ 1 ≤ a0)) := by
  refine jj_start hl (by decide) jw_517 (jj_le rfl) ?_
  intro p e s m args below meth c A hargs hA C hex hmn
  refine jj_aload_n C dX10_unitsOf_0 rfl ?_
  refine jj_iload_n C dX10_unitsOf_1 rfl ?_
  refine jq_callV (rest := []) C (ct_X10_checkInvestor_1 hl D cA ak h0 h1 h2 h3 h4 h5 h6 h7 h8 h9 h10 a0) [0, 1] [] rfl rfl (by decide) (by decide) (by decide) 0 rfl rfl rfl jw_513 jw_514 jw_515 jw_271 jw_512 jn_X10_checkInvestor rfl (jj_le rfl) (jj_le rfl) (jj_le rfl) (jj_le rfl) (jj_le rfl) dX10_unitsOf_2 rfl (fun E w1 X_1 => ?_) (fun w1 r O_2 => ?_)
  · rcases X_1 with ⟨rfl, c_3⟩ | ⟨rfl, c_4, c_5⟩
    · refine jj_leftY ?_
      exact jj_out C hex (Or.inl ⟨rfl, c_3⟩) (jj_le rfl) (jj_le rfl)
    · refine jj_leftY ?_
      exact jj_out C hex (Or.inr ⟨rfl, c_4, c_5⟩) (jj_le rfl) (jj_le rfl)
  · obtain ⟨c_6, c_7, rfl, rfl⟩ := O_2
    refine jj_apd rfl ?_
    refine jj_aload_n C dX10_unitsOf_5 rfl ?_
    refine jj_get C jk_11 3 (by decide) jw_135 0 rfl rfl dX10_unitsOf_6 ?_
    refine jj_iload_n C dX10_unitsOf_9 rfl ?_
    refine jq_callV (rest := []) C (ct_X0_unitsHeldBy_1 hl D cA ak h1 h7 h8 h9 h10 a0) [1] [0] rfl rfl (by decide) (by decide) (by decide) 0 rfl rfl rfl jw_460 jw_359 jw_360 jw_57 jw_357 jn_X0_unitsHeldBy rfl (jj_le rfl) (jj_le rfl) (jj_le rfl) (jj_le rfl) (jj_le rfl) dX10_unitsOf_10 rfl (fun _ _ hX => hX.elim) (fun w1 r O_9 => ?_)
    obtain ⟨rfl, rfl⟩ := O_9
    refine jj_apd rfl ?_
    exact jj_lret C ⟨c_6, c_7, rfl⟩ dX10_unitsOf_13 (jj_le rfl) (jj_le rfl)


set_option maxHeartbeats 4000000 in
set_option maxRecDepth 100000 in
theorem ct_X11_unitsOf_1 {l : Launch} (hl : l.stackTraces = false) (D : va_G) (cA : Nat → ClassId) (ak : (Nat → Nat) × (Nat → Nat)) (h0 h1 h2 h3 h4 h5 h6 h7 h8 h9 h10 h11 h12 : Nat) (a0 : Int32) : jj_M l D cA ak yX11_unitsOf (.code yX11_unitsOf cX11_unitsOf 2 (some .long)) 3 67 0 0 [(h0, .inr (12, [.ref h1, .ref h2, .ref h3, .ref h4, .ref h5, .ref h6, .int 0, .int 0, .long 0, .long 0, .ref h7, .ref h8, .ref h9, .int 0, .int 0, .int 0, .int 0, .int 0, .int (-1), .int 0, .int 0, .ref h10, .ref h11, .ref h12, .int 0])), (h1, .inl (cA 2, 334, .inr (.inl (vp_updL (vp_updL (fun _ => 0) 0 1) 4 100))))] [.ref h0, .int a0] (fun (w : va_W) (r : Option Value) => (a0.toInt64 < 0 ∧ w = [(h1, .inl (cA 2, 334, .inr (.inl (vp_updL (vp_updL (fun _ => 0) 0 1) 4 100)))), (h0, .inr (12, [.ref h1, .ref h2, .ref h3, .ref h4, .ref h5, .ref h6, .int 0, .int 1, .long 0, .long 0, .ref h7, .ref h8, .ref h9, .int 0, .int 0, .int 0, .int 0, .int 0, .int (-1), .int 0, .int 0, .ref h10, .ref h11, .ref h12, .int 0]))] ∧ r = some (.long 0)) ∨ (¬ a0.toInt64 < 0 ∧ 0 < a0.toInt64 ∧ w = [(h1, .inl (cA 2, 334, .inr (.inl (vp_updL (vp_updL (fun _ => 0) 0 1) 4 100)))), (h0, .inr (12, [.ref h1, .ref h2, .ref h3, .ref h4, .ref h5, .ref h6, .int 0, .int 1, .long 0, .long 0, .ref h7, .ref h8, .ref h9, .int 0, .int 0, .int 0, .int 0, .int 0, .int (-1), .int 0, .int 0, .ref h10, .ref h11, .ref h12, .int 0]))] ∧ r = some (.long 0)) ∨ (¬ a0.toInt64 < 0 ∧ ¬ 0 < a0.toInt64 ∧ w = [(h0, .inr (12, [.ref h1, .ref h2, .ref h3, .ref h4, .ref h5, .ref h6, .int 0, .int 0, .long 0, .long 0, .ref h7, .ref h8, .ref h9, .int 0, .int 0, .int 0, .int 0, .int 0, .int (-1), .int 0, .int 0, .ref h10, .ref h11, .ref h12, .int 0])), (h1, .inl (cA 2, 334, .inr (.inl (vp_updL (vp_updL (fun _ => 0) 0 1) 4 100))))] ∧ r = some (.long 0))) jj_noX := by
  refine jj_start hl (by decide) jw_518 (jj_le rfl) ?_
  intro p e s m args below meth c A hargs hA C hex hmn
  refine jj_aload_n C dX11_unitsOf_0 rfl ?_
  refine jj_iload_n C dX11_unitsOf_1 rfl ?_
  refine jq_callV (rest := []) C (ct_X11_isNoInvestor_1 hl D cA ak h0 h1 h2 h3 h4 h5 h6 h7 h8 h9 h10 h11 h12 a0) [0, 1] [] rfl rfl (by decide) (by decide) (by decide) 0 rfl rfl rfl jw_311 jw_312 jw_313 jw_224 jw_310 jn_X11_isNoInvestor rfl (jj_le rfl) (jj_le rfl) (jj_le rfl) (jj_le rfl) (jj_le rfl) dX11_unitsOf_2 rfl (fun _ _ hX => hX.elim) (fun w1 r O_2 => ?_)
  rcases O_2 with ⟨c_3, rfl, rfl⟩ | ⟨c_4, c_5, rfl, rfl⟩ | ⟨c_6, c_7, rfl, rfl⟩
  · refine jj_apd rfl ?_
    refine jj_if_eqF (tgt := 12) C dX11_unitsOf_5 (by decide) (by decide) ?_
    refine jj_lconst (v := 0) C dX11_unitsOf_8 (by decide) ?_
    refine jj_goto (tgt := 17) C dX11_unitsOf_9 (by decide) ?_
    exact jj_lret C (Or.inl ⟨c_3, rfl, rfl⟩) dX11_unitsOf_17 (jj_le rfl) (jj_le rfl)
  · refine jj_apd rfl ?_
    refine jj_if_eqF (tgt := 12) C dX11_unitsOf_5 (by decide) (by decide) ?_
    refine jj_lconst (v := 0) C dX11_unitsOf_8 (by decide) ?_
    refine jj_goto (tgt := 17) C dX11_unitsOf_9 (by decide) ?_
    exact jj_lret C (Or.inr (Or.inl ⟨c_4, c_5, rfl, rfl⟩)) dX11_unitsOf_17 (jj_le rfl) (jj_le rfl)
  · refine jj_apd rfl ?_
    refine jj_if_eqT (tgt := 12) C dX11_unitsOf_5 (by decide) (by decide) ?_
    refine jj_aload_n C dX11_unitsOf_12 rfl ?_
    refine jj_iload_n C dX11_unitsOf_13 rfl ?_
    refine jq_callV (rest := []) C (ct_X11_unitsBy_1 hl D cA ak h0 h1 h2 h3 h4 h5 h6 h7 h8 h9 h10 h11 h12 a0) [1, 0] [] rfl rfl (by decide) (by decide) (by decide) 0 rfl rfl rfl jw_381 jw_382 jw_383 jw_224 jw_380 jn_X11_unitsBy rfl (jj_le rfl) (jj_le rfl) (jj_le rfl) (jj_le rfl) (jj_le rfl) dX11_unitsOf_14 rfl (fun _ _ hX => hX.elim) (fun w1 r O_9 => ?_)
    obtain ⟨rfl, rfl⟩ := O_9
    refine jj_apd rfl ?_
    exact jj_lret C (Or.inr (Or.inr ⟨c_6, c_7, rfl, rfl⟩)) dX11_unitsOf_17 (jj_le rfl) (jj_le rfl)


set_option maxHeartbeats 4000000 in
set_option maxRecDepth 100000 in
theorem ct_X10_holding_1 {l : Launch} (hl : l.stackTraces = false) (D : va_G) (cA : Nat → ClassId) (ak : (Nat → Nat) × (Nat → Nat)) (h0 h1 h2 h3 h4 h5 h6 h7 h8 h9 h10 : Nat) (a0 : Int32) (a1 : Int32) : jj_M l D cA ak yX10_holding (.code yX10_holding cX10_holding 3 (some .long)) 8 124 2 12 [(h0, .inr (11, [.ref h2, .int 0, .int (-1), .ref h1, .ref h3, .ref h4, .ref h5, .int 0, .int 0, .ref h6])), (h1, .inr (2, [.int 1, .int 0, .int 0, .int 0, .int 100, .int 0, .int 0, .int 0, .int 0, .int 0, .ref h7, .ref h8, .ref h9, .ref h10]))] [.ref h0, .int a0, .int a1] (fun (w : va_W) (r : Option Value) => False) (fun (E : String) (w : va_W) => (E = "java/lang/IndexOutOfBoundsException" ∧ a0 < 0) ∨ (E = "java/lang/IndexOutOfBoundsException" ∧ ¬ a0 < 0 ∧ 1 ≤ a0) ∨ (E = "java/lang/IndexOutOfBoundsException" ∧ ¬ a0 < 0 ∧ ¬ 1 ≤ a0)) := by
  refine jj_start hl (by decide) jw_519 (jj_le rfl) ?_
  intro p e s m args below meth c A hargs hA C hex hmn
  refine jj_aload_n C dX10_holding_0 rfl ?_
  refine jj_iload_n C dX10_holding_1 rfl ?_
  refine jq_callV (rest := []) C (ct_X10_checkInvestor_1 hl D cA ak h0 h1 h2 h3 h4 h5 h6 h7 h8 h9 h10 a0) [0, 1] [] rfl rfl (by decide) (by decide) (by decide) 0 rfl rfl rfl jw_513 jw_514 jw_515 jw_271 jw_512 jn_X10_checkInvestor rfl (jj_le rfl) (jj_le rfl) (jj_le rfl) (jj_le rfl) (jj_le rfl) dX10_holding_2 rfl (fun E w1 X_1 => ?_) (fun w1 r O_2 => ?_)
  · rcases X_1 with ⟨rfl, c_3⟩ | ⟨rfl, c_4, c_5⟩
    · refine jj_leftY ?_
      exact jj_out C hex (Or.inl ⟨rfl, c_3⟩) (jj_le rfl) (jj_le rfl)
    · refine jj_leftY ?_
      exact jj_out C hex (Or.inr (Or.inl ⟨rfl, c_4, c_5⟩)) (jj_le rfl) (jj_le rfl)
  · obtain ⟨c_6, c_7, rfl, rfl⟩ := O_2
    refine jj_apd rfl ?_
    refine jj_aload_n C dX10_holding_5 rfl ?_
    refine jj_iload_n C dX10_holding_6 rfl ?_
    refine jq_callV (rest := []) C (ct_X10_placeOf_1 hl D cA ak h0 h1 h2 h3 h4 h5 h6 h7 h8 h9 h10 a1) [0, 1] [] rfl rfl (by decide) (by decide) (by decide) 0 rfl rfl rfl jw_496 jw_497 jw_498 jw_271 jw_495 jn_X10_placeOf rfl (jj_le rfl) (jj_le rfl) (jj_le rfl) (jj_le rfl) (jj_le rfl) dX10_holding_7 rfl (fun E w1 X_8 => ?_) (fun w1 r O_9 => ?_)
    · obtain rfl := X_8
      refine jj_leftY ?_
      exact jj_out C hex (Or.inr (Or.inr ⟨rfl, c_6, c_7⟩)) (jj_le rfl) (jj_le rfl)
    · exact O_9.elim


set_option maxHeartbeats 4000000 in
set_option maxRecDepth 100000 in
theorem ct_X11_holding_1 {l : Launch} (hl : l.stackTraces = false) (D : va_G) (cA : Nat → ClassId) (ak : (Nat → Nat) × (Nat → Nat)) (h0 h1 h2 h3 h4 h5 h6 h7 h8 h9 h10 h11 h12 : Nat) (a0 : Int32) (a1 : Int32) : jj_M l D cA ak yX11_holding (.code yX11_holding cX11_holding 3 (some .long)) 2 46 0 0 [(h0, .inr (12, [.ref h1, .ref h2, .ref h3, .ref h4, .ref h5, .ref h6, .int 0, .int 0, .long 0, .long 0, .ref h7, .ref h8, .ref h9, .int 0, .int 0, .int 0, .int 0, .int 0, .int (-1), .int 0, .int 0, .ref h10, .ref h11, .ref h12, .int 0])), (h1, .inl (cA 2, 334, .inr (.inl (vp_updL (vp_updL (fun _ => 0) 0 1) 4 100))))] [.ref h0, .int a0, .int a1] (fun (w : va_W) (r : Option Value) => (a0.toInt64 < 0 ∧ w = [(h1, .inl (cA 2, 334, .inr (.inl (vp_updL (vp_updL (fun _ => 0) 0 1) 4 100)))), (h0, .inr (12, [.ref h1, .ref h2, .ref h3, .ref h4, .ref h5, .ref h6, .int 0, .int 1, .long 0, .long 0, .ref h7, .ref h8, .ref h9, .int 0, .int 0, .int 0, .int 0, .int 0, .int (-1), .int 0, .int 0, .ref h10, .ref h11, .ref h12, .int 0]))] ∧ r = some (.long 0)) ∨ (¬ a0.toInt64 < 0 ∧ 0 < a0.toInt64 ∧ w = [(h1, .inl (cA 2, 334, .inr (.inl (vp_updL (vp_updL (fun _ => 0) 0 1) 4 100)))), (h0, .inr (12, [.ref h1, .ref h2, .ref h3, .ref h4, .ref h5, .ref h6, .int 0, .int 1, .long 0, .long 0, .ref h7, .ref h8, .ref h9, .int 0, .int 0, .int 0, .int 0, .int 0, .int (-1), .int 0, .int 0, .ref h10, .ref h11, .ref h12, .int 0]))] ∧ r = some (.long 0)) ∨ (¬ a0.toInt64 < 0 ∧ ¬ 0 < a0.toInt64 ∧ w = [(h1, .inl (cA 2, 334, .inr (.inl (vp_updL (vp_updL (fun _ => 0) 0 1) 4 100)))), (h0, .inr (12, [.ref h1, .ref h2, .ref h3, .ref h4, .ref h5, .ref h6, .int 0, .int 1, .long 0, .long 0, .ref h7, .ref h8, .ref h9, .int 0, .int 0, .int 0, .int 0, .int 0, .int (-1), .int 0, .int 0, .ref h10, .ref h11, .ref h12, .int 0]))] ∧ r = some (.long 0))) jj_noX := by
  refine jj_start hl (by decide) jw_520 (jj_le rfl) ?_
  intro p e s m args below meth c A hargs hA C hex hmn
  refine jj_aload_n C dX11_holding_0 rfl ?_
  refine jj_aload_n C dX11_holding_1 rfl ?_
  refine jj_iload_n C dX11_holding_2 rfl ?_
  refine jq_callV (rest := [.ref h0]) C (ct_X11_isInvestor_1 hl D cA ak h0 h1 h2 h3 h4 h5 h6 h7 h8 h9 h10 h11 h12 a0) [0, 1] [] rfl rfl (by decide) (by decide) (by decide) 0 rfl rfl rfl jw_301 jw_302 jw_303 jw_224 jw_300 jn_X11_isInvestor rfl (jj_le rfl) (jj_le rfl) (jj_le rfl) (jj_le rfl) (jj_le rfl) dX11_holding_3 rfl (fun _ _ hX => hX.elim) (fun w1 r O_2 => ?_)
  rcases O_2 with ⟨c_3, rfl, rfl⟩ | ⟨c_4, c_5, rfl, rfl⟩ | ⟨c_6, c_7, rfl, rfl⟩
  · refine jj_apd rfl ?_
    refine jj_if_eqT (tgt := 19) C dX11_holding_6 (by decide) (by decide) ?_
    refine jj_iconst (v := 1) C dX11_holding_19 (by decide) ?_
    refine jj_goto (tgt := 24) C dX11_holding_20 (by decide) ?_
    refine jj_iconst (v := 1) C dX11_holding_24 (by decide) ?_
    refine jq_callV (rest := []) C (ct_X11_fails_1 hl D cA ak h0 h1 h2 h3 h4 h5 h6 h7 h8 h9 h10 h11 h12) [0] [1] rfl rfl (by decide) (by decide) (by decide) 0 rfl rfl rfl jw_306 jw_307 jw_308 jw_224 jw_305 jn_X11_fails rfl (jj_le rfl) (jj_le rfl) (jj_le rfl) (jj_le rfl) (jj_le rfl) dX11_holding_25 rfl (fun _ _ hX => hX.elim) (fun w1 r O_9 => ?_)
    obtain ⟨rfl, rfl⟩ := O_9
    refine jj_apd rfl ?_
    refine jj_if_eqF (tgt := 35) C dX11_holding_28 (by decide) (by decide) ?_
    refine jj_lconst (v := 0) C dX11_holding_31 (by decide) ?_
    refine jj_goto (tgt := 42) C dX11_holding_32 (by decide) ?_
    exact jj_lret C (Or.inl ⟨c_3, rfl, rfl⟩) dX11_holding_42 (jj_le rfl) (jj_le rfl)
  · refine jj_apd rfl ?_
    refine jj_if_eqT (tgt := 19) C dX11_holding_6 (by decide) (by decide) ?_
    refine jj_iconst (v := 1) C dX11_holding_19 (by decide) ?_
    refine jj_goto (tgt := 24) C dX11_holding_20 (by decide) ?_
    refine jj_iconst (v := 1) C dX11_holding_24 (by decide) ?_
    refine jq_callV (rest := []) C (ct_X11_fails_1 hl D cA ak h0 h1 h2 h3 h4 h5 h6 h7 h8 h9 h10 h11 h12) [0] [1] rfl rfl (by decide) (by decide) (by decide) 0 rfl rfl rfl jw_306 jw_307 jw_308 jw_224 jw_305 jn_X11_fails rfl (jj_le rfl) (jj_le rfl) (jj_le rfl) (jj_le rfl) (jj_le rfl) dX11_holding_25 rfl (fun _ _ hX => hX.elim) (fun w1 r O_11 => ?_)
    obtain ⟨rfl, rfl⟩ := O_11
    refine jj_apd rfl ?_
    refine jj_if_eqF (tgt := 35) C dX11_holding_28 (by decide) (by decide) ?_
    refine jj_lconst (v := 0) C dX11_holding_31 (by decide) ?_
    refine jj_goto (tgt := 42) C dX11_holding_32 (by decide) ?_
    exact jj_lret C (Or.inr (Or.inl ⟨c_4, c_5, rfl, rfl⟩)) dX11_holding_42 (jj_le rfl) (jj_le rfl)
  · refine jj_apd rfl ?_
    refine jj_if_eqF (tgt := 19) C dX11_holding_6 (by decide) (by decide) ?_
    refine jj_aload_n C dX11_holding_9 rfl ?_
    refine jj_iload_n C dX11_holding_10 rfl ?_
    refine jj_i2l C dX11_holding_11 rfl ?_
    refine jq_callV (rest := [.ref h0]) C (ct_X11_placeOf_1 hl D cA ak h0 h1 h2 h3 h4 h5 h6 h7 h8 h9 h10 h11 h12 a1.toInt64) [0, 1] [] rfl rfl (by decide) (by decide) (by decide) 0 rfl rfl rfl jw_502 jw_503 jw_504 jw_224 jw_501 jn_X11_placeOf rfl (jj_le rfl) (jj_le rfl) (jj_le rfl) (jj_le rfl) (jj_le rfl) dX11_holding_12 rfl (fun _ _ hX => hX.elim) (fun w1 r O_13 => ?_)
    obtain ⟨rfl, rfl⟩ := O_13
    refine jj_apd rfl ?_
    refine jj_iconst (v := (-1)) C dX11_holding_15 (by decide) ?_
    refine jj_icmp_neF (tgt := 23) C dX11_holding_16 (by decide) (by decide) ?_
    refine jj_iconst (v := 1) C dX11_holding_19 (by decide) ?_
    refine jj_goto (tgt := 24) C dX11_holding_20 (by decide) ?_
    refine jj_iconst (v := 1) C dX11_holding_24 (by decide) ?_
    refine jq_callV (rest := []) C (ct_X11_fails_1 hl D cA ak h0 h1 h2 h3 h4 h5 h6 h7 h8 h9 h10 h11 h12) [0] [1] rfl rfl (by decide) (by decide) (by decide) 0 rfl rfl rfl jw_306 jw_307 jw_308 jw_224 jw_305 jn_X11_fails rfl (jj_le rfl) (jj_le rfl) (jj_le rfl) (jj_le rfl) (jj_le rfl) dX11_holding_25 rfl (fun _ _ hX => hX.elim) (fun w1 r O_15 => ?_)
    obtain ⟨rfl, rfl⟩ := O_15
    refine jj_apd rfl ?_
    refine jj_if_eqF (tgt := 35) C dX11_holding_28 (by decide) (by decide) ?_
    refine jj_lconst (v := 0) C dX11_holding_31 (by decide) ?_
    refine jj_goto (tgt := 42) C dX11_holding_32 (by decide) ?_
    exact jj_lret C (Or.inr (Or.inr ⟨c_6, c_7, rfl, rfl⟩)) dX11_holding_42 (jj_le rfl) (jj_le rfl)


set_option maxHeartbeats 4000000 in
set_option maxRecDepth 100000 in
theorem ct_X1_resetTrial_1 {l : Launch} (hl : l.stackTraces = false) (D : va_G) (cA : Nat → ClassId) (ak : (Nat → Nat) × (Nat → Nat)) (h0 h1 h2 h3 h4 h5 h6 : Nat) (a0 : Int32) : jj_M l D cA ak yX1_resetTrial (.code yX1_resetTrial cX1_resetTrial 4 none) 0 0 0 0 [(h0, .inr (3, [.ref h2, .long 0, .long 0, .long 0, .long 0, .long 0])), (h1, .inr (2, [.int 1, .int 0, .int 0, .int 0, .int 100, .int 0, .int 0, .int 0, .int 0, .int 0, .ref h3, .ref h4, .ref h5, .ref h6]))] [.ref h0, .ref h1, .int a0] (fun (w : va_W) (r : Option Value) => (w = [(h0, .inr (3, [.ref h2, .long 0, .long 0, .long 0, .long 0, .long 0])), (h1, .inr (2, [.int 1, .int 0, .int 0, .int 0, .int 100, .int 0, .int 0, .int 0, .int 0, .int 0, .ref h3, .ref h4, .ref h5, .ref h6]))] ∧ r = none)) jj_noX := by
  refine jj_start hl (by decide) jw_522 (jj_le rfl) ?_
  intro p e s m args below meth c A hargs hA C hex hmn
  refine jj_iconst (v := 0) C dX1_resetTrial_0 (by decide) ?_
  refine jj_istore_n C dX1_resetTrial_1 (by decide) rfl ?_
  refine jj_iload_n C dX1_resetTrial_2 rfl ?_
  refine jj_aload_n C dX1_resetTrial_3 rfl ?_
  refine jj_get C jk_2 7 (by decide) jw_521 1 rfl rfl dX1_resetTrial_4 ?_
  refine jj_icmp_geT (tgt := 50) C dX1_resetTrial_7 (by decide) (by decide) ?_
  exact jj_vret C ⟨rfl, rfl⟩ dX1_resetTrial_50 (jj_le rfl) (jj_le rfl)


set_option maxHeartbeats 4000000 in
set_option maxRecDepth 100000 in
theorem ct_X1_tryRedemption_1 {l : Launch} (hl : l.stackTraces = false) (D : va_G) (cA : Nat → ClassId) (ak : (Nat → Nat) × (Nat → Nat)) (h0 h1 h2 h3 h4 h5 h6 : Nat) (a0 : Int32) : jj_M l D cA ak yX1_tryRedemption (.code yX1_tryRedemption cX1_tryRedemption 15 (some .long)) 0 0 0 0 [(h0, .inr (3, [.ref h2, .long 0, .long 0, .long 0, .long 0, .long 0])), (h1, .inr (2, [.int 1, .int 0, .int 0, .int 0, .int 100, .int 0, .int 0, .int 0, .int 0, .int 0, .ref h3, .ref h4, .ref h5, .ref h6]))] [.ref h0, .ref h1, .int a0, .long 9223372036854775807, .int 1] (fun (w : va_W) (r : Option Value) => (w = [(h0, .inr (3, [.ref h2, .long 0, .long 0, .long 0, .long 0, .long 0])), (h1, .inr (2, [.int 1, .int 0, .int 0, .int 0, .int 100, .int 0, .int 0, .int 0, .int 0, .int 0, .ref h3, .ref h4, .ref h5, .ref h6]))] ∧ r = some (.long 0))) jj_noX := by
  refine jj_start hl (by decide) jw_529 (jj_le rfl) ?_
  intro p e s m args below meth c A hargs hA C hex hmn
  refine jj_lconst (v := 0) C dX1_tryRedemption_0 (by decide) ?_
  refine jj_lstore C dX1_tryRedemption_1 (by decide) rfl ?_
  refine jj_lload_n C dX1_tryRedemption_3 rfl ?_
  refine jj_lstore C dX1_tryRedemption_4 (by decide) rfl ?_
  refine jj_iconst (v := 0) C dX1_tryRedemption_6 (by decide) ?_
  refine jj_istore C dX1_tryRedemption_7 (by decide) rfl ?_
  refine jj_iload C dX1_tryRedemption_9 rfl ?_
  refine jj_aload_n C dX1_tryRedemption_11 rfl ?_
  refine jj_get C jk_2 8 (by decide) jw_528 1 rfl rfl dX1_tryRedemption_12 ?_
  refine jj_icmp_geT (tgt := 173) C dX1_tryRedemption_15 (by decide) (by decide) ?_
  refine jj_lload C dX1_tryRedemption_173 rfl ?_
  exact jj_lret C ⟨rfl, rfl⟩ dX1_tryRedemption_175 (jj_le rfl) (jj_le rfl)


set_option maxHeartbeats 4000000 in
set_option maxRecDepth 100000 in
theorem ct_X1_payAfterRate_1 {l : Launch} (hl : l.stackTraces = false) (D : va_G) (cA : Nat → ClassId) (ak : (Nat → Nat) × (Nat → Nat)) (h0 h1 h2 h3 h4 h5 h6 : Nat) (a0 : Int32) (a1 : Int32) : jj_M l D cA ak yX1_payAfterRate (.code yX1_payAfterRate cX1_payAfterRate 4 (some .long)) 1 34 0 0 [(h0, .inr (3, [.ref h2, .long 0, .long 0, .long 0, .long 0, .long 0])), (h1, .inr (2, [.int 1, .int 0, .int 0, .int 0, .int 100, .int 0, .int 0, .int 0, .int 0, .int 0, .ref h3, .ref h4, .ref h5, .ref h6]))] [.ref h0, .ref h1, .int a0, .int a1] (fun (w : va_W) (r : Option Value) => (w = [(h0, .inr (3, [.ref h2, .long 0, .long 0, .long 0, .long 0, .long 0])), (h1, .inr (2, [.int 1, .int 0, .int 0, .int 0, .int 100, .int 0, .int 0, .int 0, .int 0, .int 0, .ref h3, .ref h4, .ref h5, .ref h6]))] ∧ r = some (.long 0))) jj_noX := by
  refine jj_start hl (by decide) jw_534 (jj_le rfl) ?_
  intro p e s m args below meth c A hargs hA C hex hmn
  refine jj_aload_n C dX1_payAfterRate_0 rfl ?_
  refine jj_aload_n C dX1_payAfterRate_1 rfl ?_
  refine jj_iload_n C dX1_payAfterRate_2 rfl ?_
  refine jq_callV (rest := []) C (ct_X1_resetTrial_1 hl D cA ak h0 h1 h2 h3 h4 h5 h6 a1) [0, 1] [] rfl rfl (by decide) (by decide) (by decide) 0 rfl rfl rfl jw_523 jw_524 jw_525 jw_146 jw_522 jn_X1_resetTrial rfl (jj_le rfl) (jj_le rfl) (jj_le rfl) (jj_le rfl) (jj_le rfl) dX1_payAfterRate_3 rfl (fun _ _ hX => hX.elim) (fun w1 r O_2 => ?_)
  obtain ⟨rfl, rfl⟩ := O_2
  refine jj_apd rfl ?_
  refine jj_aload_n C dX1_payAfterRate_6 rfl ?_
  refine jj_aload_n C dX1_payAfterRate_7 rfl ?_
  refine jj_iload_n C dX1_payAfterRate_8 rfl ?_
  refine jj_ldc2 (v := 9223372036854775807) C dX1_payAfterRate_9 jw_527 ?_
  refine jj_iconst (v := 1) C dX1_payAfterRate_12 (by decide) ?_
  refine jq_callV (rest := []) C (ct_X1_tryRedemption_1 hl D cA ak h0 h1 h2 h3 h4 h5 h6 a0) [0, 1] [] rfl rfl (by decide) (by decide) (by decide) 0 rfl rfl rfl jw_530 jw_531 jw_532 jw_146 jw_529 jn_X1_tryRedemption rfl (jj_le rfl) (jj_le rfl) (jj_le rfl) (jj_le rfl) (jj_le rfl) dX1_payAfterRate_13 rfl (fun _ _ hX => hX.elim) (fun w1 r O_4 => ?_)
  obtain ⟨rfl, rfl⟩ := O_4
  refine jj_apd rfl ?_
  exact jj_lret C ⟨rfl, rfl⟩ dX1_payAfterRate_16 (jj_le rfl) (jj_le rfl)


set_option maxHeartbeats 4000000 in
set_option maxRecDepth 100000 in
theorem ct_X10_valueOf_1 {l : Launch} (hl : l.stackTraces = false) (D : va_G) (cA : Nat → ClassId) (ak : (Nat → Nat) × (Nat → Nat)) (h0 h1 h2 h3 h4 h5 h6 h7 h8 h9 h10 h11 : Nat) (a0 : Int32) : jj_M l D cA ak yX10_valueOf (.code yX10_valueOf cX10_valueOf 2 (some .long)) 8 123 1 6 [(h0, .inr (11, [.ref h3, .int 0, .int (-1), .ref h1, .ref h4, .ref h2, .ref h5, .int 0, .int 0, .ref h6])), (h1, .inr (2, [.int 1, .int 0, .int 0, .int 0, .int 100, .int 0, .int 0, .int 0, .int 0, .int 0, .ref h7, .ref h8, .ref h9, .ref h10])), (h2, .inr (3, [.ref h11, .long 0, .long 0, .long 0, .long 0, .long 0]))] [.ref h0, .int a0] (fun (w : va_W) (r : Option Value) => (¬ a0 < 0 ∧ ¬ 1 ≤ a0 ∧ r = some (.long 0))) (fun (E : String) (w : va_W) => (E = "java/lang/IndexOutOfBoundsException" ∧ a0 < 0) ∨ (E = "java/lang/IndexOutOfBoundsException" ∧ ¬ a0 < 0 ∧ 1 ≤ a0)) := by
  refine jj_start hl (by decide) jw_539 (jj_le rfl) ?_
  intro p e s m args below meth c A hargs hA C hex hmn
  refine jj_aload_n C dX10_valueOf_0 rfl ?_
  refine jj_iload_n C dX10_valueOf_1 rfl ?_
  refine jq_callV (rest := []) C (ct_X10_checkInvestor_1 hl D cA ak h0 h1 h3 h4 h2 h5 h6 h7 h8 h9 h10 a0) [0, 1] [2] rfl rfl (by decide) (by decide) (by decide) 0 rfl rfl rfl jw_513 jw_514 jw_515 jw_271 jw_512 jn_X10_checkInvestor rfl (jj_le rfl) (jj_le rfl) (jj_le rfl) (jj_le rfl) (jj_le rfl) dX10_valueOf_2 rfl (fun E w1 X_1 => ?_) (fun w1 r O_2 => ?_)
  · rcases X_1 with ⟨rfl, c_3⟩ | ⟨rfl, c_4, c_5⟩
    · refine jj_leftY ?_
      exact jj_out C hex (Or.inl ⟨rfl, c_3⟩) (jj_le rfl) (jj_le rfl)
    · refine jj_leftY ?_
      exact jj_out C hex (Or.inr ⟨rfl, c_4, c_5⟩) (jj_le rfl) (jj_le rfl)
  · obtain ⟨c_6, c_7, rfl, rfl⟩ := O_2
    refine jj_apd rfl ?_
    refine jj_aload_n C dX10_valueOf_5 rfl ?_
    refine jj_get C jk_11 5 (by decide) jw_159 1 rfl rfl dX10_valueOf_6 ?_
    refine jj_aload_n C dX10_valueOf_9 rfl ?_
    refine jj_get C jk_11 3 (by decide) jw_135 1 rfl rfl dX10_valueOf_10 ?_
    refine jj_iload_n C dX10_valueOf_13 rfl ?_
    refine jj_iconst (v := 0) C dX10_valueOf_14 (by decide) ?_
    refine jq_callV (rest := []) C (ct_X1_payAfterRate_1 hl D cA ak h2 h1 h11 h7 h8 h9 h10 a0 0) [0, 2] [1] rfl rfl (by decide) (by decide) (by decide) 0 rfl rfl rfl jw_535 jw_536 jw_537 jw_146 jw_534 jn_X1_payAfterRate rfl (jj_le rfl) (jj_le rfl) (jj_le rfl) (jj_le rfl) (jj_le rfl) dX10_valueOf_15 rfl (fun _ _ hX => hX.elim) (fun w1 r O_9 => ?_)
    obtain ⟨rfl, rfl⟩ := O_9
    refine jj_apd rfl ?_
    exact jj_lret C ⟨c_6, c_7, rfl⟩ dX10_valueOf_18 (jj_le rfl) (jj_le rfl)


set_option maxHeartbeats 4000000 in
set_option maxRecDepth 100000 in
theorem ct_X11_dropEmptyLots_1 {l : Launch} (hl : l.stackTraces = false) (D : va_G) (cA : Nat → ClassId) (ak : (Nat → Nat) × (Nat → Nat)) (h0 h1 h2 h3 h4 h5 h6 h7 h8 h9 h10 h11 h12 : Nat) : jj_M l D cA ak yX11_dropEmptyLots (.code yX11_dropEmptyLots cX11_dropEmptyLots 2 none) 0 0 0 0 [(h0, .inr (12, [.ref h1, .ref h2, .ref h3, .ref h4, .ref h5, .ref h6, .int 0, .int 0, .long 0, .long 0, .ref h7, .ref h8, .ref h9, .int 0, .int 0, .int 0, .int 0, .int 0, .int (-1), .int 0, .int 0, .ref h10, .ref h11, .ref h12, .int 0])), (h1, .inl (cA 2, 334, .inr (.inl (vp_updL (vp_updL (fun _ => 0) 0 1) 4 100))))] [.ref h0] (fun (w : va_W) (r : Option Value) => (w = [(h0, .inr (12, [.ref h1, .ref h2, .ref h3, .ref h4, .ref h5, .ref h6, .int 0, .int 0, .long 0, .long 0, .ref h7, .ref h8, .ref h9, .int 0, .int 0, .int 0, .int 0, .int 0, .int (-1), .int 0, .int 0, .ref h10, .ref h11, .ref h12, .int 0])), (h1, .inl (cA 2, 334, .inr (.inl (vp_updL (vp_updL (fun _ => 0) 0 1) 4 100))))] ∧ r = none)) jj_noX := by
  refine jj_start hl (by decide) jw_541 (jj_le rfl) ?_
  intro p e s m args below meth c A hargs hA C hex hmn
  refine jj_aload_n C dX11_dropEmptyLots_0 rfl ?_
  refine jj_get C jk_12 0 (by decide) jw_181 0 rfl rfl dX11_dropEmptyLots_1 ?_
  refine jj_bipush (v := 7) C dX11_dropEmptyLots_4 (by decide) ?_
  refine jj_lald (v := 0) C 1 rfl (vp_in_iff.mpr (by decide)) rfl dX11_dropEmptyLots_6 ?_
  refine jj_l2i (v := 0) C dX11_dropEmptyLots_7 (by decide) ?_
  refine jj_iconst (v := 1) C dX11_dropEmptyLots_8 (by decide) ?_
  refine jj_isub (v := (-1)) C dX11_dropEmptyLots_9 (by decide) ?_
  refine jj_istore_n C dX11_dropEmptyLots_10 (by decide) rfl ?_
  refine jj_iload_n C dX11_dropEmptyLots_11 rfl ?_
  refine jj_if_ltT (tgt := 45) C dX11_dropEmptyLots_12 (by decide) (by decide) ?_
  exact jj_vret C ⟨rfl, rfl⟩ dX11_dropEmptyLots_45 (jj_le rfl) (jj_le rfl)


set_option maxHeartbeats 4000000 in
set_option maxRecDepth 100000 in
theorem ct_X11_closeEmpty_1 {l : Launch} (hl : l.stackTraces = false) (D : va_G) (cA : Nat → ClassId) (ak : (Nat → Nat) × (Nat → Nat)) (h0 h1 h2 h3 h4 h5 h6 h7 h8 h9 h10 h11 h12 : Nat) : jj_M l D cA ak yX11_closeEmpty (.code yX11_closeEmpty cX11_closeEmpty 3 none) 0 0 0 0 [(h0, .inr (12, [.ref h1, .ref h2, .ref h3, .ref h4, .ref h5, .ref h6, .int 0, .int 0, .long 0, .long 0, .ref h7, .ref h8, .ref h9, .int 0, .int 0, .int 0, .int 0, .int 0, .int (-1), .int 0, .int 0, .ref h10, .ref h11, .ref h12, .int 0])), (h1, .inl (cA 2, 334, .inr (.inl (vp_updL (vp_updL (fun _ => 0) 0 1) 4 100))))] [.ref h0] (fun (w : va_W) (r : Option Value) => (w = [(h0, .inr (12, [.ref h1, .ref h2, .ref h3, .ref h4, .ref h5, .ref h6, .int 0, .int 0, .long 0, .long 0, .ref h7, .ref h8, .ref h9, .int 0, .int 0, .int 0, .int 0, .int 0, .int (-1), .int 0, .int 0, .ref h10, .ref h11, .ref h12, .int 0])), (h1, .inl (cA 2, 334, .inr (.inl (vp_updL (vp_updL (fun _ => 0) 0 1) 4 100))))] ∧ r = none)) jj_noX := by
  refine jj_start hl (by decide) jw_546 (jj_le rfl) ?_
  intro p e s m args below meth c A hargs hA C hex hmn
  refine jj_aload_n C dX11_closeEmpty_0 rfl ?_
  refine jj_get C jk_12 0 (by decide) jw_181 0 rfl rfl dX11_closeEmpty_1 ?_
  refine jj_bipush (v := 6) C dX11_closeEmpty_4 (by decide) ?_
  refine jj_lald (v := 0) C 1 rfl (vp_in_iff.mpr (by decide)) rfl dX11_closeEmpty_6 ?_
  refine jj_l2i (v := 0) C dX11_closeEmpty_7 (by decide) ?_
  refine jj_iconst (v := 1) C dX11_closeEmpty_8 (by decide) ?_
  refine jj_isub (v := (-1)) C dX11_closeEmpty_9 (by decide) ?_
  refine jj_istore_n C dX11_closeEmpty_10 (by decide) rfl ?_
  refine jj_iload_n C dX11_closeEmpty_11 rfl ?_
  refine jj_if_ltT (tgt := 65) C dX11_closeEmpty_12 (by decide) (by decide) ?_
  exact jj_vret C ⟨rfl, rfl⟩ dX11_closeEmpty_65 (jj_le rfl) (jj_le rfl)


set_option maxHeartbeats 4000000 in
set_option maxRecDepth 100000 in
theorem ct_X11_redeemFrom_1 {l : Launch} (hl : l.stackTraces = false) (D : va_G) (cA : Nat → ClassId) (ak : (Nat → Nat) × (Nat → Nat)) (h0 h1 h2 h3 h4 h5 h6 h7 h8 h9 h10 h11 h12 : Nat) (a0 : Int32) : jj_M l D cA ak yX11_redeemFrom (.code yX11_redeemFrom cX11_redeemFrom 10 (some .long)) 1 22 0 0 [(h0, .inr (12, [.ref h1, .ref h2, .ref h3, .ref h4, .ref h5, .ref h6, .int 0, .int 0, .long 0, .long 0, .ref h7, .ref h8, .ref h9, .int 0, .int 0, .int 0, .int 0, .int 0, .int (-1), .int 0, .int 0, .ref h10, .ref h11, .ref h12, .int 0])), (h1, .inl (cA 2, 334, .inr (.inl (vp_updL (vp_updL (fun _ => 0) 0 1) 4 100))))] [.ref h0, .int a0, .long 0] (fun (w : va_W) (r : Option Value) => (w = [(h0, .inr (12, [.ref h1, .ref h2, .ref h3, .ref h4, .ref h5, .ref h6, .int 0, .int 0, .long 0, .long 0, .ref h7, .ref h8, .ref h9, .int 0, .int 0, .int 0, .int 0, .int 0, .int (-1), .int 0, .int 0, .ref h10, .ref h11, .ref h12, .int 0])), (h1, .inl (cA 2, 334, .inr (.inl (vp_updL (vp_updL (fun _ => 0) 0 1) 4 100))))] ∧ r = some (.long 0))) jj_noX := by
  refine jj_start hl (by decide) jw_551 (jj_le rfl) ?_
  intro p e s m args below meth c A hargs hA C hex hmn
  refine jj_lload_n C dX11_redeemFrom_0 rfl ?_
  refine jj_lstore C dX11_redeemFrom_1 (by decide) rfl ?_
  refine jj_iconst (v := 0) C dX11_redeemFrom_3 (by decide) ?_
  refine jj_istore C dX11_redeemFrom_4 (by decide) rfl ?_
  refine jj_iload C dX11_redeemFrom_6 rfl ?_
  refine jj_i2l (v := 0) C dX11_redeemFrom_8 (by decide) ?_
  refine jj_aload_n C dX11_redeemFrom_9 rfl ?_
  refine jj_get C jk_12 0 (by decide) jw_181 0 rfl rfl dX11_redeemFrom_10 ?_
  refine jj_bipush (v := 7) C dX11_redeemFrom_13 (by decide) ?_
  refine jj_lald (v := 0) C 1 rfl (vp_in_iff.mpr (by decide)) rfl dX11_redeemFrom_15 ?_
  refine jj_lcmp_geT (tgt := 89) C dX11_redeemFrom_16 dX11_redeemFrom_17 (by decide) (by decide) ?_
  refine jj_aload_n C dX11_redeemFrom_89 rfl ?_
  refine jq_callV (rest := []) C (ct_X11_dropEmptyLots_1 hl D cA ak h0 h1 h2 h3 h4 h5 h6 h7 h8 h9 h10 h11 h12) [0, 1] [] rfl rfl (by decide) (by decide) (by decide) 0 rfl rfl rfl jw_542 jw_543 jw_544 jw_224 jw_541 jn_X11_dropEmptyLots rfl (jj_le rfl) (jj_le rfl) (jj_le rfl) (jj_le rfl) (jj_le rfl) dX11_redeemFrom_90 rfl (fun _ _ hX => hX.elim) (fun w1 r O_2 => ?_)
  obtain ⟨rfl, rfl⟩ := O_2
  refine jj_apd rfl ?_
  refine jj_aload_n C dX11_redeemFrom_93 rfl ?_
  refine jq_callV (rest := []) C (ct_X11_closeEmpty_1 hl D cA ak h0 h1 h2 h3 h4 h5 h6 h7 h8 h9 h10 h11 h12) [0, 1] [] rfl rfl (by decide) (by decide) (by decide) 0 rfl rfl rfl jw_547 jw_548 jw_549 jw_224 jw_546 jn_X11_closeEmpty rfl (jj_le rfl) (jj_le rfl) (jj_le rfl) (jj_le rfl) (jj_le rfl) dX11_redeemFrom_94 rfl (fun _ _ hX => hX.elim) (fun w1 r O_4 => ?_)
  obtain ⟨rfl, rfl⟩ := O_4
  refine jj_apd rfl ?_
  refine jj_lload_n C dX11_redeemFrom_97 rfl ?_
  refine jj_lload C dX11_redeemFrom_98 rfl ?_
  refine jj_lsub (v := 0) C dX11_redeemFrom_100 (by decide) ?_
  exact jj_lret C ⟨rfl, rfl⟩ dX11_redeemFrom_101 (jj_le rfl) (jj_le rfl)


set_option maxHeartbeats 4000000 in
set_option maxRecDepth 100000 in
theorem ct_X11_worthOf_1 {l : Launch} (hl : l.stackTraces = false) (D : va_G) (cA : Nat → ClassId) (ak : (Nat → Nat) × (Nat → Nat)) (h0 h1 h2 h3 h4 h5 h6 h7 h8 h9 h10 h11 h12 : Nat) (a0 : Int32) : jj_M l D cA ak yX11_worthOf (.code yX11_worthOf cX11_worthOf 4 (some .long)) 2 51 0 0 [(h0, .inr (12, [.ref h1, .ref h3, .ref h4, .ref h2, .ref h5, .ref h6, .int 0, .int 0, .long 0, .long 0, .ref h7, .ref h8, .ref h9, .int 0, .int 0, .int 0, .int 0, .int 0, .int (-1), .int 0, .int 0, .ref h10, .ref h11, .ref h12, .int 0])), (h1, .inl (cA 2, 334, .inr (.inl (vp_updL (vp_updL (fun _ => 0) 0 1) 4 100)))), (h2, .inl (cA 2, 334, .inr (.inl (fun _ => 0))))] [.ref h0, .int a0] (fun (w : va_W) (r : Option Value) => (w = [(h0, .inr (12, [.ref h1, .ref h3, .ref h4, .ref h2, .ref h5, .ref h6, .int 0, .int 0, .long 0, .long 0, .ref h7, .ref h8, .ref h9, .int 0, .int 0, .int 0, .int 0, .int 0, .int (-1), .int 0, .int 0, .ref h10, .ref h11, .ref h12, .int 0])), (h2, .inl (cA 2, 334, .inr (.inl (jj_cpy (vp_updL (vp_updL (fun _ => 0) 0 1) 4 100) (fun _ => 0) 334)))), (h1, .inl (cA 2, 334, .inr (.inl (jj_cpy (jj_cpy (vp_updL (vp_updL (fun _ => 0) 0 1) 4 100) (fun _ => 0) 334) (vp_updL (vp_updL (fun _ => 0) 0 1) 4 100) 334))))] ∧ r = some (.long 0))) jj_noX := by
  refine jj_start hl (by decide) jw_556 (jj_le rfl) ?_
  intro p e s m args below meth c A hargs hA C hex hmn
  refine jj_aload_n C dX11_worthOf_0 rfl ?_
  refine jj_get C jk_12 0 (by decide) jw_181 0 rfl rfl dX11_worthOf_1 ?_
  refine jj_aload_n C dX11_worthOf_4 rfl ?_
  refine jj_get C jk_12 3 (by decide) jw_210 0 rfl rfl dX11_worthOf_5 ?_
  refine jq_callS (rest := []) C (ct_X11_copy_1 hl D cA ak h1 h2 (vp_updL (vp_updL (fun _ => 0) 0 1) 4 100) (fun _ => 0)) [1, 2] [0] rfl rfl (by decide) (by decide) (by decide) jw_327 jw_328 jw_224 jw_326 jn_X11_copy rfl (jj_le rfl) (jj_le rfl) (jj_le rfl) (jj_le rfl) (jj_le rfl) dX11_worthOf_8 rfl (fun _ _ hX => hX.elim) (fun w1 r O_2 => ?_)
  obtain ⟨rfl, rfl⟩ := O_2
  refine jj_apd rfl ?_
  refine jj_aload_n C dX11_worthOf_11 rfl ?_
  refine jj_lconst (v := 0) C dX11_worthOf_12 (by decide) ?_
  refine jj_put C jk_12 9 (by decide) jw_540 rfl 0 rfl rfl rfl rfl rfl dX11_worthOf_13 ?_
  refine jj_aload_n C dX11_worthOf_16 rfl ?_
  refine jj_iload_n C dX11_worthOf_17 rfl ?_
  refine jj_aload_n C dX11_worthOf_18 rfl ?_
  refine jj_iload_n C dX11_worthOf_19 rfl ?_
  refine jq_callV (rest := [.int a0, .ref h0]) C (ct_X11_unitsBy_1 hl D cA ak h0 h1 h3 h4 h2 h5 h6 h7 h8 h9 h10 h11 h12 a0) [0, 1] [2] rfl rfl (by decide) (by decide) (by decide) 0 rfl rfl rfl jw_381 jw_382 jw_383 jw_224 jw_380 jn_X11_unitsBy rfl (jj_le rfl) (jj_le rfl) (jj_le rfl) (jj_le rfl) (jj_le rfl) dX11_worthOf_20 rfl (fun _ _ hX => hX.elim) (fun w1 r O_4 => ?_)
  obtain ⟨rfl, rfl⟩ := O_4
  refine jj_apd rfl ?_
  refine jq_callV (rest := []) C (ct_X11_redeemFrom_1 hl D cA ak h0 h1 h3 h4 h2 h5 h6 h7 h8 h9 h10 h11 h12 a0) [1, 2] [0] rfl rfl (by decide) (by decide) (by decide) 0 rfl rfl rfl jw_552 jw_553 jw_554 jw_224 jw_551 jn_X11_redeemFrom rfl (jj_le rfl) (jj_le rfl) (jj_le rfl) (jj_le rfl) (jj_le rfl) dX11_worthOf_23 rfl (fun _ _ hX => hX.elim) (fun w1 r O_6 => ?_)
  obtain ⟨rfl, rfl⟩ := O_6
  refine jj_apd rfl ?_
  refine jj_lstore_n C dX11_worthOf_26 (by decide) rfl ?_
  refine jj_aload_n C dX11_worthOf_27 rfl ?_
  refine jj_get C jk_12 3 (by decide) jw_210 1 rfl rfl dX11_worthOf_28 ?_
  refine jj_aload_n C dX11_worthOf_31 rfl ?_
  refine jj_get C jk_12 0 (by decide) jw_181 1 rfl rfl dX11_worthOf_32 ?_
  refine jq_callS (rest := []) C (ct_X11_copy_1 hl D cA ak h2 h1 (jj_cpy (vp_updL (vp_updL (fun _ => 0) 0 1) 4 100) (fun _ => 0) 334) (vp_updL (vp_updL (fun _ => 0) 0 1) 4 100)) [0, 2] [1] rfl rfl (by decide) (by decide) (by decide) jw_327 jw_328 jw_224 jw_326 jn_X11_copy rfl (jj_le rfl) (jj_le rfl) (jj_le rfl) (jj_le rfl) (jj_le rfl) dX11_worthOf_35 rfl (fun _ _ hX => hX.elim) (fun w1 r O_8 => ?_)
  obtain ⟨rfl, rfl⟩ := O_8
  refine jj_apd rfl ?_
  refine jj_aload_n C dX11_worthOf_38 rfl ?_
  refine jj_get C jk_12 9 (by decide) jw_540 0 rfl rfl dX11_worthOf_39 ?_
  exact jj_lret C ⟨rfl, rfl⟩ dX11_worthOf_42 (jj_le rfl) (jj_le rfl)


set_option maxHeartbeats 4000000 in
set_option maxRecDepth 100000 in
theorem ct_X11_valueOf_1 {l : Launch} (hl : l.stackTraces = false) (D : va_G) (cA : Nat → ClassId) (ak : (Nat → Nat) × (Nat → Nat)) (h0 h1 h2 h3 h4 h5 h6 h7 h8 h9 h10 h11 h12 : Nat) (a0 : Int32) : jj_M l D cA ak yX11_valueOf (.code yX11_valueOf cX11_valueOf 2 (some .long)) 3 74 0 0 [(h0, .inr (12, [.ref h1, .ref h3, .ref h4, .ref h2, .ref h5, .ref h6, .int 0, .int 0, .long 0, .long 0, .ref h7, .ref h8, .ref h9, .int 0, .int 0, .int 0, .int 0, .int 0, .int (-1), .int 0, .int 0, .ref h10, .ref h11, .ref h12, .int 0])), (h1, .inl (cA 2, 334, .inr (.inl (vp_updL (vp_updL (fun _ => 0) 0 1) 4 100)))), (h2, .inl (cA 2, 334, .inr (.inl (fun _ => 0))))] [.ref h0, .int a0] (fun (w : va_W) (r : Option Value) => (a0.toInt64 < 0 ∧ w = [(h2, .inl (cA 2, 334, .inr (.inl (fun _ => 0)))), (h1, .inl (cA 2, 334, .inr (.inl (vp_updL (vp_updL (fun _ => 0) 0 1) 4 100)))), (h0, .inr (12, [.ref h1, .ref h3, .ref h4, .ref h2, .ref h5, .ref h6, .int 0, .int 1, .long 0, .long 0, .ref h7, .ref h8, .ref h9, .int 0, .int 0, .int 0, .int 0, .int 0, .int (-1), .int 0, .int 0, .ref h10, .ref h11, .ref h12, .int 0]))] ∧ r = some (.long 0)) ∨ (¬ a0.toInt64 < 0 ∧ 0 < a0.toInt64 ∧ w = [(h2, .inl (cA 2, 334, .inr (.inl (fun _ => 0)))), (h1, .inl (cA 2, 334, .inr (.inl (vp_updL (vp_updL (fun _ => 0) 0 1) 4 100)))), (h0, .inr (12, [.ref h1, .ref h3, .ref h4, .ref h2, .ref h5, .ref h6, .int 0, .int 1, .long 0, .long 0, .ref h7, .ref h8, .ref h9, .int 0, .int 0, .int 0, .int 0, .int 0, .int (-1), .int 0, .int 0, .ref h10, .ref h11, .ref h12, .int 0]))] ∧ r = some (.long 0)) ∨ (¬ a0.toInt64 < 0 ∧ ¬ 0 < a0.toInt64 ∧ w = [(h0, .inr (12, [.ref h1, .ref h3, .ref h4, .ref h2, .ref h5, .ref h6, .int 0, .int 0, .long 0, .long 0, .ref h7, .ref h8, .ref h9, .int 0, .int 0, .int 0, .int 0, .int 0, .int (-1), .int 0, .int 0, .ref h10, .ref h11, .ref h12, .int 0])), (h2, .inl (cA 2, 334, .inr (.inl (jj_cpy (vp_updL (vp_updL (fun _ => 0) 0 1) 4 100) (fun _ => 0) 334)))), (h1, .inl (cA 2, 334, .inr (.inl (jj_cpy (jj_cpy (vp_updL (vp_updL (fun _ => 0) 0 1) 4 100) (fun _ => 0) 334) (vp_updL (vp_updL (fun _ => 0) 0 1) 4 100) 334))))] ∧ r = some (.long 0))) jj_noX := by
  refine jj_start hl (by decide) jw_561 (jj_le rfl) ?_
  intro p e s m args below meth c A hargs hA C hex hmn
  refine jj_aload_n C dX11_valueOf_0 rfl ?_
  refine jj_iload_n C dX11_valueOf_1 rfl ?_
  refine jq_callV (rest := []) C (ct_X11_isNoInvestor_1 hl D cA ak h0 h1 h3 h4 h2 h5 h6 h7 h8 h9 h10 h11 h12 a0) [0, 1] [2] rfl rfl (by decide) (by decide) (by decide) 0 rfl rfl rfl jw_311 jw_312 jw_313 jw_224 jw_310 jn_X11_isNoInvestor rfl (jj_le rfl) (jj_le rfl) (jj_le rfl) (jj_le rfl) (jj_le rfl) dX11_valueOf_2 rfl (fun _ _ hX => hX.elim) (fun w1 r O_2 => ?_)
  rcases O_2 with ⟨c_3, rfl, rfl⟩ | ⟨c_4, c_5, rfl, rfl⟩ | ⟨c_6, c_7, rfl, rfl⟩
  · refine jj_apd rfl ?_
    refine jj_if_eqF (tgt := 12) C dX11_valueOf_5 (by decide) (by decide) ?_
    refine jj_lconst (v := 0) C dX11_valueOf_8 (by decide) ?_
    refine jj_goto (tgt := 17) C dX11_valueOf_9 (by decide) ?_
    exact jj_lret C (Or.inl ⟨c_3, rfl, rfl⟩) dX11_valueOf_17 (jj_le rfl) (jj_le rfl)
  · refine jj_apd rfl ?_
    refine jj_if_eqF (tgt := 12) C dX11_valueOf_5 (by decide) (by decide) ?_
    refine jj_lconst (v := 0) C dX11_valueOf_8 (by decide) ?_
    refine jj_goto (tgt := 17) C dX11_valueOf_9 (by decide) ?_
    exact jj_lret C (Or.inr (Or.inl ⟨c_4, c_5, rfl, rfl⟩)) dX11_valueOf_17 (jj_le rfl) (jj_le rfl)
  · refine jj_apd rfl ?_
    refine jj_if_eqT (tgt := 12) C dX11_valueOf_5 (by decide) (by decide) ?_
    refine jj_aload_n C dX11_valueOf_12 rfl ?_
    refine jj_iload_n C dX11_valueOf_13 rfl ?_
    refine jq_callV (rest := []) C (ct_X11_worthOf_1 hl D cA ak h0 h1 h2 h3 h4 h5 h6 h7 h8 h9 h10 h11 h12 a0) [2, 1, 0] [] rfl rfl (by decide) (by decide) (by decide) 0 rfl rfl rfl jw_557 jw_558 jw_559 jw_224 jw_556 jn_X11_worthOf rfl (jj_le rfl) (jj_le rfl) (jj_le rfl) (jj_le rfl) (jj_le rfl) dX11_valueOf_14 rfl (fun _ _ hX => hX.elim) (fun w1 r O_9 => ?_)
    obtain ⟨rfl, rfl⟩ := O_9
    refine jj_apd rfl ?_
    exact jj_lret C (Or.inr (Or.inr ⟨c_6, c_7, rfl, rfl⟩)) dX11_valueOf_17 (jj_le rfl) (jj_le rfl)


set_option maxHeartbeats 4000000 in
set_option maxRecDepth 100000 in
theorem ct_X1_tryRedemption_2 {l : Launch} (hl : l.stackTraces = false) (D : va_G) (cA : Nat → ClassId) (ak : (Nat → Nat) × (Nat → Nat)) (h0 h1 h2 h3 h4 h5 h6 : Nat) : jj_M l D cA ak yX1_tryRedemption (.code yX1_tryRedemption cX1_tryRedemption 15 (some .long)) 0 0 0 0 [(h0, .inr (3, [.ref h2, .long 0, .long 0, .long 0, .long 0, .long 0])), (h1, .inr (2, [.int 1, .int 0, .int 0, .int 0, .int 100, .int 0, .int 0, .int 0, .int 0, .int 0, .ref h3, .ref h4, .ref h5, .ref h6]))] [.ref h0, .ref h1, .int 0, .long 9223372036854775807, .int 1] (fun (w : va_W) (r : Option Value) => (w = [(h0, .inr (3, [.ref h2, .long 0, .long 0, .long 0, .long 0, .long 0])), (h1, .inr (2, [.int 1, .int 0, .int 0, .int 0, .int 100, .int 0, .int 0, .int 0, .int 0, .int 0, .ref h3, .ref h4, .ref h5, .ref h6]))] ∧ r = some (.long 0))) jj_noX := by
  refine jj_start hl (by decide) jw_529 (jj_le rfl) ?_
  intro p e s m args below meth c A hargs hA C hex hmn
  refine jj_lconst (v := 0) C dX1_tryRedemption_0 (by decide) ?_
  refine jj_lstore C dX1_tryRedemption_1 (by decide) rfl ?_
  refine jj_lload_n C dX1_tryRedemption_3 rfl ?_
  refine jj_lstore C dX1_tryRedemption_4 (by decide) rfl ?_
  refine jj_iconst (v := 0) C dX1_tryRedemption_6 (by decide) ?_
  refine jj_istore C dX1_tryRedemption_7 (by decide) rfl ?_
  refine jj_iload C dX1_tryRedemption_9 rfl ?_
  refine jj_aload_n C dX1_tryRedemption_11 rfl ?_
  refine jj_get C jk_2 8 (by decide) jw_528 1 rfl rfl dX1_tryRedemption_12 ?_
  refine jj_icmp_geT (tgt := 173) C dX1_tryRedemption_15 (by decide) (by decide) ?_
  refine jj_lload C dX1_tryRedemption_173 rfl ?_
  exact jj_lret C ⟨rfl, rfl⟩ dX1_tryRedemption_175 (jj_le rfl) (jj_le rfl)


set_option maxHeartbeats 4000000 in
set_option maxRecDepth 100000 in
theorem ct_X1_payAfterRate_2 {l : Launch} (hl : l.stackTraces = false) (D : va_G) (cA : Nat → ClassId) (ak : (Nat → Nat) × (Nat → Nat)) (h0 h1 h2 h3 h4 h5 h6 : Nat) (a0 : Int32) : jj_M l D cA ak yX1_payAfterRate (.code yX1_payAfterRate cX1_payAfterRate 4 (some .long)) 1 34 0 0 [(h0, .inr (3, [.ref h2, .long 0, .long 0, .long 0, .long 0, .long 0])), (h1, .inr (2, [.int 1, .int 0, .int 0, .int 0, .int 100, .int 0, .int 0, .int 0, .int 0, .int 0, .ref h3, .ref h4, .ref h5, .ref h6]))] [.ref h0, .ref h1, .int 0, .int a0] (fun (w : va_W) (r : Option Value) => (w = [(h0, .inr (3, [.ref h2, .long 0, .long 0, .long 0, .long 0, .long 0])), (h1, .inr (2, [.int 1, .int 0, .int 0, .int 0, .int 100, .int 0, .int 0, .int 0, .int 0, .int 0, .ref h3, .ref h4, .ref h5, .ref h6]))] ∧ r = some (.long 0))) jj_noX := by
  refine jj_start hl (by decide) jw_534 (jj_le rfl) ?_
  intro p e s m args below meth c A hargs hA C hex hmn
  refine jj_aload_n C dX1_payAfterRate_0 rfl ?_
  refine jj_aload_n C dX1_payAfterRate_1 rfl ?_
  refine jj_iload_n C dX1_payAfterRate_2 rfl ?_
  refine jq_callV (rest := []) C (ct_X1_resetTrial_1 hl D cA ak h0 h1 h2 h3 h4 h5 h6 a0) [0, 1] [] rfl rfl (by decide) (by decide) (by decide) 0 rfl rfl rfl jw_523 jw_524 jw_525 jw_146 jw_522 jn_X1_resetTrial rfl (jj_le rfl) (jj_le rfl) (jj_le rfl) (jj_le rfl) (jj_le rfl) dX1_payAfterRate_3 rfl (fun _ _ hX => hX.elim) (fun w1 r O_2 => ?_)
  obtain ⟨rfl, rfl⟩ := O_2
  refine jj_apd rfl ?_
  refine jj_aload_n C dX1_payAfterRate_6 rfl ?_
  refine jj_aload_n C dX1_payAfterRate_7 rfl ?_
  refine jj_iload_n C dX1_payAfterRate_8 rfl ?_
  refine jj_ldc2 (v := 9223372036854775807) C dX1_payAfterRate_9 jw_527 ?_
  refine jj_iconst (v := 1) C dX1_payAfterRate_12 (by decide) ?_
  refine jq_callV (rest := []) C (ct_X1_tryRedemption_2 hl D cA ak h0 h1 h2 h3 h4 h5 h6) [0, 1] [] rfl rfl (by decide) (by decide) (by decide) 0 rfl rfl rfl jw_530 jw_531 jw_532 jw_146 jw_529 jn_X1_tryRedemption rfl (jj_le rfl) (jj_le rfl) (jj_le rfl) (jj_le rfl) (jj_le rfl) dX1_payAfterRate_13 rfl (fun _ _ hX => hX.elim) (fun w1 r O_4 => ?_)
  obtain ⟨rfl, rfl⟩ := O_4
  refine jj_apd rfl ?_
  exact jj_lret C ⟨rfl, rfl⟩ dX1_payAfterRate_16 (jj_le rfl) (jj_le rfl)


set_option maxHeartbeats 4000000 in
set_option maxRecDepth 100000 in
theorem ct_X10_placeInRanking_1 {l : Launch} (hl : l.stackTraces = false) (D : va_G) (cA : Nat → ClassId) (ak : (Nat → Nat) × (Nat → Nat)) (h0 h1 h2 h3 h4 h5 h6 h7 h8 h9 h10 h11 : Nat) : jj_M l D cA ak yX10_placeInRanking (.code yX10_placeInRanking cX10_placeInRanking 8 (some .int)) 2 57 0 0 [(h0, .inr (11, [.ref h3, .int 0, .int (-1), .ref h1, .ref h4, .ref h2, .ref h5, .int 0, .int 0, .ref h6])), (h1, .inr (2, [.int 1, .int 0, .int 0, .int 0, .int 100, .int 0, .int 0, .int 0, .int 0, .int 0, .ref h7, .ref h8, .ref h9, .ref h10])), (h2, .inr (3, [.ref h11, .long 0, .long 0, .long 0, .long 0, .long 0]))] [.ref h0, .int 0] (fun (w : va_W) (r : Option Value) => (w = [(h0, .inr (11, [.ref h3, .int 0, .int (-1), .ref h1, .ref h4, .ref h2, .ref h5, .int 0, .int 0, .ref h6])), (h2, .inr (3, [.ref h11, .long 0, .long 0, .long 0, .long 0, .long 0])), (h1, .inr (2, [.int 1, .int 0, .int 0, .int 0, .int 100, .int 0, .int 0, .int 0, .int 0, .int 0, .ref h7, .ref h8, .ref h9, .ref h10]))] ∧ r = some (.int 0))) jj_noX := by
  refine jj_start hl (by decide) jw_562 (jj_le rfl) ?_
  intro p e s m args below meth c A hargs hA C hex hmn
  refine jj_aload_n C dX10_placeInRanking_0 rfl ?_
  refine jj_get C jk_11 5 (by decide) jw_159 0 rfl rfl dX10_placeInRanking_1 ?_
  refine jj_aload_n C dX10_placeInRanking_4 rfl ?_
  refine jj_get C jk_11 3 (by decide) jw_135 0 rfl rfl dX10_placeInRanking_5 ?_
  refine jj_iload_n C dX10_placeInRanking_8 rfl ?_
  refine jj_iconst (v := 0) C dX10_placeInRanking_9 (by decide) ?_
  refine jq_callV (rest := []) C (ct_X1_payAfterRate_2 hl D cA ak h2 h1 h11 h7 h8 h9 h10 0) [2, 1] [0] rfl rfl (by decide) (by decide) (by decide) 0 rfl rfl rfl jw_535 jw_536 jw_537 jw_146 jw_534 jn_X1_payAfterRate rfl (jj_le rfl) (jj_le rfl) (jj_le rfl) (jj_le rfl) (jj_le rfl) dX10_placeInRanking_10 rfl (fun _ _ hX => hX.elim) (fun w1 r O_2 => ?_)
  obtain ⟨rfl, rfl⟩ := O_2
  refine jj_apd rfl ?_
  refine jj_lstore_n C dX10_placeInRanking_13 (by decide) rfl ?_
  refine jj_iconst (v := 0) C dX10_placeInRanking_14 (by decide) ?_
  refine jj_istore C dX10_placeInRanking_15 (by decide) rfl ?_
  refine jj_iconst (v := 0) C dX10_placeInRanking_17 (by decide) ?_
  refine jj_istore C dX10_placeInRanking_18 (by decide) rfl ?_
  refine jj_iload C dX10_placeInRanking_20 rfl ?_
  refine jj_aload_n C dX10_placeInRanking_22 rfl ?_
  refine jj_get C jk_11 3 (by decide) jw_135 0 rfl rfl dX10_placeInRanking_23 ?_
  refine jj_get C jk_2 0 (by decide) jw_472 2 rfl rfl dX10_placeInRanking_26 ?_
  refine jj_icmp_geF (tgt := 77) C dX10_placeInRanking_29 (by decide) (by decide) ?_
  refine jj_aload_n C dX10_placeInRanking_32 rfl ?_
  refine jj_get C jk_11 5 (by decide) jw_159 0 rfl rfl dX10_placeInRanking_33 ?_
  refine jj_aload_n C dX10_placeInRanking_36 rfl ?_
  refine jj_get C jk_11 3 (by decide) jw_135 0 rfl rfl dX10_placeInRanking_37 ?_
  refine jj_iload C dX10_placeInRanking_40 rfl ?_
  refine jj_iconst (v := 0) C dX10_placeInRanking_42 (by decide) ?_
  refine jq_callV (rest := []) C (ct_X1_payAfterRate_2 hl D cA ak h2 h1 h11 h7 h8 h9 h10 0) [1, 2] [0] rfl rfl (by decide) (by decide) (by decide) 0 rfl rfl rfl jw_535 jw_536 jw_537 jw_146 jw_534 jn_X1_payAfterRate rfl (jj_le rfl) (jj_le rfl) (jj_le rfl) (jj_le rfl) (jj_le rfl) dX10_placeInRanking_43 rfl (fun _ _ hX => hX.elim) (fun w1 r O_4 => ?_)
  obtain ⟨rfl, rfl⟩ := O_4
  refine jj_apd rfl ?_
  refine jj_lstore C dX10_placeInRanking_46 (by decide) rfl ?_
  refine jj_lload C dX10_placeInRanking_48 rfl ?_
  refine jj_lload_n C dX10_placeInRanking_50 rfl ?_
  refine jj_lcmp_gtF (tgt := 68) C dX10_placeInRanking_51 dX10_placeInRanking_52 (by decide) (by decide) ?_
  refine jj_lload C dX10_placeInRanking_55 rfl ?_
  refine jj_lload_n C dX10_placeInRanking_57 rfl ?_
  refine jj_lcmp_neF (tgt := 71) C dX10_placeInRanking_58 dX10_placeInRanking_59 (by decide) (by decide) ?_
  refine jj_iload C dX10_placeInRanking_62 rfl ?_
  refine jj_iload_n C dX10_placeInRanking_64 rfl ?_
  refine jj_icmp_geT (tgt := 71) C dX10_placeInRanking_65 (by decide) (by decide) ?_
  refine jj_iinc (v := 1) C dX10_placeInRanking_71 rfl (by decide) (by decide) rfl ?_
  refine jj_goto (tgt := 20) C dX10_placeInRanking_74 (by decide) ?_
  refine jj_iload C dX10_placeInRanking_20 rfl ?_
  refine jj_aload_n C dX10_placeInRanking_22 rfl ?_
  refine jj_get C jk_11 3 (by decide) jw_135 0 rfl rfl dX10_placeInRanking_23 ?_
  refine jj_get C jk_2 0 (by decide) jw_472 2 rfl rfl dX10_placeInRanking_26 ?_
  refine jj_icmp_geT (tgt := 77) C dX10_placeInRanking_29 (by decide) (by decide) ?_
  refine jj_iload C dX10_placeInRanking_77 rfl ?_
  exact jj_iret C ⟨rfl, rfl⟩ dX10_placeInRanking_79 (jj_le rfl) (jj_le rfl)


set_option maxHeartbeats 4000000 in
set_option maxRecDepth 100000 in
theorem ct_X10_richest_1 {l : Launch} (hl : l.stackTraces = false) (D : va_G) (cA : Nat → ClassId) (ak : (Nat → Nat) × (Nat → Nat)) (h0 h1 h2 h3 h4 h5 h6 h7 h8 h9 h10 h11 : Nat) (a0 : Int32) : jj_M l D cA ak yX10_richest (.code yX10_richest cX10_richest 3 (some .int)) 8 123 1 6 [(h0, .inr (11, [.ref h3, .int 0, .int (-1), .ref h1, .ref h4, .ref h2, .ref h5, .int 0, .int 0, .ref h6])), (h1, .inr (2, [.int 1, .int 0, .int 0, .int 0, .int 100, .int 0, .int 0, .int 0, .int 0, .int 0, .ref h7, .ref h8, .ref h9, .ref h10])), (h2, .inr (3, [.ref h11, .long 0, .long 0, .long 0, .long 0, .long 0]))] [.ref h0, .int a0] (fun (w : va_W) (r : Option Value) => (¬ a0 < 0 ∧ ¬ 1 ≤ a0 ∧ ¬ 0 = a0 ∧ r = some (.int (-1))) ∨ (¬ a0 < 0 ∧ ¬ 1 ≤ a0 ∧ 0 = a0 ∧ r = some (.int 0))) (fun (E : String) (w : va_W) => (E = "java/lang/IndexOutOfBoundsException" ∧ a0 < 0) ∨ (E = "java/lang/IndexOutOfBoundsException" ∧ ¬ a0 < 0 ∧ 1 ≤ a0)) := by
  refine jj_start hl (by decide) jw_567 (jj_le rfl) ?_
  intro p e s m args below meth c A hargs hA C hex hmn
  refine jj_aload_n C dX10_richest_0 rfl ?_
  refine jj_iload_n C dX10_richest_1 rfl ?_
  refine jq_callV (rest := []) C (ct_X10_checkInvestor_1 hl D cA ak h0 h1 h3 h4 h2 h5 h6 h7 h8 h9 h10 a0) [0, 1] [2] rfl rfl (by decide) (by decide) (by decide) 0 rfl rfl rfl jw_513 jw_514 jw_515 jw_271 jw_512 jn_X10_checkInvestor rfl (jj_le rfl) (jj_le rfl) (jj_le rfl) (jj_le rfl) (jj_le rfl) dX10_richest_2 rfl (fun E w1 X_1 => ?_) (fun w1 r O_2 => ?_)
  · rcases X_1 with ⟨rfl, c_3⟩ | ⟨rfl, c_4, c_5⟩
    · refine jj_leftY ?_
      exact jj_out C hex (Or.inl ⟨rfl, c_3⟩) (jj_le rfl) (jj_le rfl)
    · refine jj_leftY ?_
      exact jj_out C hex (Or.inr ⟨rfl, c_4, c_5⟩) (jj_le rfl) (jj_le rfl)
  · obtain ⟨c_6, c_7, rfl, rfl⟩ := O_2
    refine jj_apd rfl ?_
    refine jj_iconst (v := 0) C dX10_richest_5 (by decide) ?_
    refine jj_istore_n C dX10_richest_6 (by decide) rfl ?_
    refine jj_iload_n C dX10_richest_7 rfl ?_
    refine jj_aload_n C dX10_richest_8 rfl ?_
    refine jj_get C jk_11 3 (by decide) jw_135 1 rfl rfl dX10_richest_9 ?_
    refine jj_get C jk_2 0 (by decide) jw_472 2 rfl rfl dX10_richest_12 ?_
    refine jj_icmp_geF (tgt := 35) C dX10_richest_15 (by decide) (by decide) ?_
    refine jj_aload_n C dX10_richest_18 rfl ?_
    refine jj_iload_n C dX10_richest_19 rfl ?_
    refine jq_callV (rest := []) C (ct_X10_placeInRanking_1 hl D cA ak h0 h1 h2 h3 h4 h5 h6 h7 h8 h9 h10 h11) [1, 2, 0] [] rfl rfl (by decide) (by decide) (by decide) 0 rfl rfl rfl jw_563 jw_564 jw_565 jw_271 jw_562 jn_X10_placeInRanking rfl (jj_le rfl) (jj_le rfl) (jj_le rfl) (jj_le rfl) (jj_le rfl) dX10_richest_20 rfl (fun _ _ hX => hX.elim) (fun w1 r O_9 => ?_)
    obtain ⟨rfl, rfl⟩ := O_9
    refine jj_apd rfl ?_
    refine jj_iload_n C dX10_richest_23 rfl ?_
    refine jj_icmp_ne (tgt := 29) C dX10_richest_24 (by decide) (fun c_10 => ?_) (fun c_10 => ?_)
    · refine jj_iinc (v := 1) C dX10_richest_29 rfl (by decide) (by decide) rfl ?_
      refine jj_goto (tgt := 7) C dX10_richest_32 (by decide) ?_
      refine jj_iload_n C dX10_richest_7 rfl ?_
      refine jj_aload_n C dX10_richest_8 rfl ?_
      refine jj_get C jk_11 3 (by decide) jw_135 0 rfl rfl dX10_richest_9 ?_
      refine jj_get C jk_2 0 (by decide) jw_472 2 rfl rfl dX10_richest_12 ?_
      refine jj_icmp_geT (tgt := 35) C dX10_richest_15 (by decide) (by decide) ?_
      refine jj_iconst (v := (-1)) C dX10_richest_35 (by decide) ?_
      exact jj_iret C (Or.inl ⟨c_6, c_7, c_10, rfl⟩) dX10_richest_36 (jj_le rfl) (jj_le rfl)
    · refine jj_iload_n C dX10_richest_27 rfl ?_
      exact jj_iret C (Or.inr ⟨c_6, c_7, c_10, rfl⟩) dX10_richest_28 (jj_le rfl) (jj_le rfl)


set_option maxHeartbeats 4000000 in
set_option maxRecDepth 100000 in
theorem ct_X11_unitsBy_3 {l : Launch} (hl : l.stackTraces = false) (D : va_G) (cA : Nat → ClassId) (ak : (Nat → Nat) × (Nat → Nat)) (h0 h1 h2 h3 h4 h5 h6 h7 h8 h9 h10 h11 h12 : Nat) : jj_M l D cA ak yX11_unitsBy (.code yX11_unitsBy cX11_unitsBy 5 (some .long)) 0 0 0 0 [(h0, .inr (12, [.ref h1, .ref h2, .ref h3, .ref h4, .ref h5, .ref h6, .int 0, .int 0, .long 0, .long 0, .ref h7, .ref h8, .ref h9, .int 0, .int 0, .int 0, .int 0, .int 0, .int (-1), .int 0, .int 0, .ref h10, .ref h11, .ref h12, .int 0])), (h1, .inl (cA 2, 334, .inr (.inl (vp_updL (vp_updL (fun _ => 0) 0 1) 4 100))))] [.ref h0, .int 0] (fun (w : va_W) (r : Option Value) => (w = [(h0, .inr (12, [.ref h1, .ref h2, .ref h3, .ref h4, .ref h5, .ref h6, .int 0, .int 0, .long 0, .long 0, .ref h7, .ref h8, .ref h9, .int 0, .int 0, .int 0, .int 0, .int 0, .int (-1), .int 0, .int 0, .ref h10, .ref h11, .ref h12, .int 0])), (h1, .inl (cA 2, 334, .inr (.inl (vp_updL (vp_updL (fun _ => 0) 0 1) 4 100))))] ∧ r = some (.long 0))) jj_noX := by
  refine jj_start hl (by decide) jw_380 (jj_le rfl) ?_
  intro p e s m args below meth c A hargs hA C hex hmn
  refine jj_lconst (v := 0) C dX11_unitsBy_0 (by decide) ?_
  refine jj_lstore_n C dX11_unitsBy_1 (by decide) rfl ?_
  refine jj_iconst (v := 0) C dX11_unitsBy_2 (by decide) ?_
  refine jj_istore C dX11_unitsBy_3 (by decide) rfl ?_
  refine jj_iload C dX11_unitsBy_5 rfl ?_
  refine jj_i2l (v := 0) C dX11_unitsBy_7 (by decide) ?_
  refine jj_aload_n C dX11_unitsBy_8 rfl ?_
  refine jj_get C jk_12 0 (by decide) jw_181 0 rfl rfl dX11_unitsBy_9 ?_
  refine jj_bipush (v := 7) C dX11_unitsBy_12 (by decide) ?_
  refine jj_lald (v := 0) C 1 rfl (vp_in_iff.mpr (by decide)) rfl dX11_unitsBy_14 ?_
  refine jj_lcmp_geT (tgt := 58) C dX11_unitsBy_15 dX11_unitsBy_16 (by decide) (by decide) ?_
  refine jj_lload_n C dX11_unitsBy_58 rfl ?_
  exact jj_lret C ⟨rfl, rfl⟩ dX11_unitsBy_59 (jj_le rfl) (jj_le rfl)


set_option maxHeartbeats 4000000 in
set_option maxRecDepth 100000 in
theorem ct_X11_redeemFrom_2 {l : Launch} (hl : l.stackTraces = false) (D : va_G) (cA : Nat → ClassId) (ak : (Nat → Nat) × (Nat → Nat)) (h0 h1 h2 h3 h4 h5 h6 h7 h8 h9 h10 h11 h12 : Nat) : jj_M l D cA ak yX11_redeemFrom (.code yX11_redeemFrom cX11_redeemFrom 10 (some .long)) 1 22 0 0 [(h0, .inr (12, [.ref h1, .ref h2, .ref h3, .ref h4, .ref h5, .ref h6, .int 0, .int 0, .long 0, .long 0, .ref h7, .ref h8, .ref h9, .int 0, .int 0, .int 0, .int 0, .int 0, .int (-1), .int 0, .int 0, .ref h10, .ref h11, .ref h12, .int 0])), (h1, .inl (cA 2, 334, .inr (.inl (vp_updL (vp_updL (fun _ => 0) 0 1) 4 100))))] [.ref h0, .int 0, .long 0] (fun (w : va_W) (r : Option Value) => (w = [(h0, .inr (12, [.ref h1, .ref h2, .ref h3, .ref h4, .ref h5, .ref h6, .int 0, .int 0, .long 0, .long 0, .ref h7, .ref h8, .ref h9, .int 0, .int 0, .int 0, .int 0, .int 0, .int (-1), .int 0, .int 0, .ref h10, .ref h11, .ref h12, .int 0])), (h1, .inl (cA 2, 334, .inr (.inl (vp_updL (vp_updL (fun _ => 0) 0 1) 4 100))))] ∧ r = some (.long 0))) jj_noX := by
  refine jj_start hl (by decide) jw_551 (jj_le rfl) ?_
  intro p e s m args below meth c A hargs hA C hex hmn
  refine jj_lload_n C dX11_redeemFrom_0 rfl ?_
  refine jj_lstore C dX11_redeemFrom_1 (by decide) rfl ?_
  refine jj_iconst (v := 0) C dX11_redeemFrom_3 (by decide) ?_
  refine jj_istore C dX11_redeemFrom_4 (by decide) rfl ?_
  refine jj_iload C dX11_redeemFrom_6 rfl ?_
  refine jj_i2l (v := 0) C dX11_redeemFrom_8 (by decide) ?_
  refine jj_aload_n C dX11_redeemFrom_9 rfl ?_
  refine jj_get C jk_12 0 (by decide) jw_181 0 rfl rfl dX11_redeemFrom_10 ?_
  refine jj_bipush (v := 7) C dX11_redeemFrom_13 (by decide) ?_
  refine jj_lald (v := 0) C 1 rfl (vp_in_iff.mpr (by decide)) rfl dX11_redeemFrom_15 ?_
  refine jj_lcmp_geT (tgt := 89) C dX11_redeemFrom_16 dX11_redeemFrom_17 (by decide) (by decide) ?_
  refine jj_aload_n C dX11_redeemFrom_89 rfl ?_
  refine jq_callV (rest := []) C (ct_X11_dropEmptyLots_1 hl D cA ak h0 h1 h2 h3 h4 h5 h6 h7 h8 h9 h10 h11 h12) [0, 1] [] rfl rfl (by decide) (by decide) (by decide) 0 rfl rfl rfl jw_542 jw_543 jw_544 jw_224 jw_541 jn_X11_dropEmptyLots rfl (jj_le rfl) (jj_le rfl) (jj_le rfl) (jj_le rfl) (jj_le rfl) dX11_redeemFrom_90 rfl (fun _ _ hX => hX.elim) (fun w1 r O_2 => ?_)
  obtain ⟨rfl, rfl⟩ := O_2
  refine jj_apd rfl ?_
  refine jj_aload_n C dX11_redeemFrom_93 rfl ?_
  refine jq_callV (rest := []) C (ct_X11_closeEmpty_1 hl D cA ak h0 h1 h2 h3 h4 h5 h6 h7 h8 h9 h10 h11 h12) [0, 1] [] rfl rfl (by decide) (by decide) (by decide) 0 rfl rfl rfl jw_547 jw_548 jw_549 jw_224 jw_546 jn_X11_closeEmpty rfl (jj_le rfl) (jj_le rfl) (jj_le rfl) (jj_le rfl) (jj_le rfl) dX11_redeemFrom_94 rfl (fun _ _ hX => hX.elim) (fun w1 r O_4 => ?_)
  obtain ⟨rfl, rfl⟩ := O_4
  refine jj_apd rfl ?_
  refine jj_lload_n C dX11_redeemFrom_97 rfl ?_
  refine jj_lload C dX11_redeemFrom_98 rfl ?_
  refine jj_lsub (v := 0) C dX11_redeemFrom_100 (by decide) ?_
  exact jj_lret C ⟨rfl, rfl⟩ dX11_redeemFrom_101 (jj_le rfl) (jj_le rfl)


set_option maxHeartbeats 4000000 in
set_option maxRecDepth 100000 in
theorem ct_X11_worthOf_2 {l : Launch} (hl : l.stackTraces = false) (D : va_G) (cA : Nat → ClassId) (ak : (Nat → Nat) × (Nat → Nat)) (h0 h1 h2 h3 h4 h5 h6 h7 h8 h9 h10 h11 h12 : Nat) : jj_M l D cA ak yX11_worthOf (.code yX11_worthOf cX11_worthOf 4 (some .long)) 2 51 0 0 [(h0, .inr (12, [.ref h1, .ref h3, .ref h4, .ref h2, .ref h5, .ref h6, .int 0, .int 0, .long 0, .long 0, .ref h7, .ref h8, .ref h9, .int 0, .int 0, .int 0, .int 0, .int 0, .int (-1), .int 0, .int 0, .ref h10, .ref h11, .ref h12, .int 0])), (h1, .inl (cA 2, 334, .inr (.inl (vp_updL (vp_updL (fun _ => 0) 0 1) 4 100)))), (h2, .inl (cA 2, 334, .inr (.inl (fun _ => 0))))] [.ref h0, .int 0] (fun (w : va_W) (r : Option Value) => (w = [(h0, .inr (12, [.ref h1, .ref h3, .ref h4, .ref h2, .ref h5, .ref h6, .int 0, .int 0, .long 0, .long 0, .ref h7, .ref h8, .ref h9, .int 0, .int 0, .int 0, .int 0, .int 0, .int (-1), .int 0, .int 0, .ref h10, .ref h11, .ref h12, .int 0])), (h2, .inl (cA 2, 334, .inr (.inl (jj_cpy (vp_updL (vp_updL (fun _ => 0) 0 1) 4 100) (fun _ => 0) 334)))), (h1, .inl (cA 2, 334, .inr (.inl (jj_cpy (jj_cpy (vp_updL (vp_updL (fun _ => 0) 0 1) 4 100) (fun _ => 0) 334) (vp_updL (vp_updL (fun _ => 0) 0 1) 4 100) 334))))] ∧ r = some (.long 0))) jj_noX := by
  refine jj_start hl (by decide) jw_556 (jj_le rfl) ?_
  intro p e s m args below meth c A hargs hA C hex hmn
  refine jj_aload_n C dX11_worthOf_0 rfl ?_
  refine jj_get C jk_12 0 (by decide) jw_181 0 rfl rfl dX11_worthOf_1 ?_
  refine jj_aload_n C dX11_worthOf_4 rfl ?_
  refine jj_get C jk_12 3 (by decide) jw_210 0 rfl rfl dX11_worthOf_5 ?_
  refine jq_callS (rest := []) C (ct_X11_copy_1 hl D cA ak h1 h2 (vp_updL (vp_updL (fun _ => 0) 0 1) 4 100) (fun _ => 0)) [1, 2] [0] rfl rfl (by decide) (by decide) (by decide) jw_327 jw_328 jw_224 jw_326 jn_X11_copy rfl (jj_le rfl) (jj_le rfl) (jj_le rfl) (jj_le rfl) (jj_le rfl) dX11_worthOf_8 rfl (fun _ _ hX => hX.elim) (fun w1 r O_2 => ?_)
  obtain ⟨rfl, rfl⟩ := O_2
  refine jj_apd rfl ?_
  refine jj_aload_n C dX11_worthOf_11 rfl ?_
  refine jj_lconst (v := 0) C dX11_worthOf_12 (by decide) ?_
  refine jj_put C jk_12 9 (by decide) jw_540 rfl 0 rfl rfl rfl rfl rfl dX11_worthOf_13 ?_
  refine jj_aload_n C dX11_worthOf_16 rfl ?_
  refine jj_iload_n C dX11_worthOf_17 rfl ?_
  refine jj_aload_n C dX11_worthOf_18 rfl ?_
  refine jj_iload_n C dX11_worthOf_19 rfl ?_
  refine jq_callV (rest := [.int 0, .ref h0]) C (ct_X11_unitsBy_3 hl D cA ak h0 h1 h3 h4 h2 h5 h6 h7 h8 h9 h10 h11 h12) [0, 1] [2] rfl rfl (by decide) (by decide) (by decide) 0 rfl rfl rfl jw_381 jw_382 jw_383 jw_224 jw_380 jn_X11_unitsBy rfl (jj_le rfl) (jj_le rfl) (jj_le rfl) (jj_le rfl) (jj_le rfl) dX11_worthOf_20 rfl (fun _ _ hX => hX.elim) (fun w1 r O_4 => ?_)
  obtain ⟨rfl, rfl⟩ := O_4
  refine jj_apd rfl ?_
  refine jq_callV (rest := []) C (ct_X11_redeemFrom_2 hl D cA ak h0 h1 h3 h4 h2 h5 h6 h7 h8 h9 h10 h11 h12) [1, 2] [0] rfl rfl (by decide) (by decide) (by decide) 0 rfl rfl rfl jw_552 jw_553 jw_554 jw_224 jw_551 jn_X11_redeemFrom rfl (jj_le rfl) (jj_le rfl) (jj_le rfl) (jj_le rfl) (jj_le rfl) dX11_worthOf_23 rfl (fun _ _ hX => hX.elim) (fun w1 r O_6 => ?_)
  obtain ⟨rfl, rfl⟩ := O_6
  refine jj_apd rfl ?_
  refine jj_lstore_n C dX11_worthOf_26 (by decide) rfl ?_
  refine jj_aload_n C dX11_worthOf_27 rfl ?_
  refine jj_get C jk_12 3 (by decide) jw_210 1 rfl rfl dX11_worthOf_28 ?_
  refine jj_aload_n C dX11_worthOf_31 rfl ?_
  refine jj_get C jk_12 0 (by decide) jw_181 1 rfl rfl dX11_worthOf_32 ?_
  refine jq_callS (rest := []) C (ct_X11_copy_1 hl D cA ak h2 h1 (jj_cpy (vp_updL (vp_updL (fun _ => 0) 0 1) 4 100) (fun _ => 0) 334) (vp_updL (vp_updL (fun _ => 0) 0 1) 4 100)) [0, 2] [1] rfl rfl (by decide) (by decide) (by decide) jw_327 jw_328 jw_224 jw_326 jn_X11_copy rfl (jj_le rfl) (jj_le rfl) (jj_le rfl) (jj_le rfl) (jj_le rfl) dX11_worthOf_35 rfl (fun _ _ hX => hX.elim) (fun w1 r O_8 => ?_)
  obtain ⟨rfl, rfl⟩ := O_8
  refine jj_apd rfl ?_
  refine jj_aload_n C dX11_worthOf_38 rfl ?_
  refine jj_get C jk_12 9 (by decide) jw_540 0 rfl rfl dX11_worthOf_39 ?_
  exact jj_lret C ⟨rfl, rfl⟩ dX11_worthOf_42 (jj_le rfl) (jj_le rfl)


