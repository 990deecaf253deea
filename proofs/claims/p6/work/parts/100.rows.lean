set_option maxHeartbeats 4000000 in
set_option maxRecDepth 100000 in
theorem ct_J9_min_f86c9_1 {l : Launch} (hl : l.stackTraces = false) (D : va_G) (cA : Nat → ClassId) (ak : (Nat → Nat) × (Nat → Nat)) (b0 : Int64) (b1 : Int64) : jj_M l D cA ak yJ9_min_f86c9 (.code yJ9_min_f86c9 cJ9_min_f86c9 4 (some .long)) 0 0 0 0 [] [.long b0, .long b1] (fun (w : va_W) (r : Option Value) => (b1 < b0 ∧ w = [] ∧ r = some (.long b1)) ∨ (¬ b1 < b0 ∧ w = [] ∧ r = some (.long b0))) jj_noX := by
  refine jq_startF hl (by decide +kernel) jw_e0e7ffaaeb (jj_le rfl) ?_
  intro p e s m args below meth c A hargs hA C hex hmn
  refine jj_lload_n C dJ9_min_f86c9_0 rfl ?_
  refine jj_lload_n C dJ9_min_f86c9_1 rfl ?_
  refine jj_lcmp_gt (tgt := 10) C dJ9_min_f86c9_2 dJ9_min_f86c9_3 (by decide) (fun c_1 => ?_) (fun c_1 => ?_)
  · refine jj_lload_n C dJ9_min_f86c9_10 rfl ?_
    exact jj_lret C (Or.inl ⟨c_1, rfl, rfl⟩) dJ9_min_f86c9_11 (jj_le rfl) (jj_le rfl)
  · refine jj_lload_n C dJ9_min_f86c9_6 rfl ?_
    refine jj_goto (tgt := 11) C dJ9_min_f86c9_7 (by decide) ?_
    exact jj_lret C (Or.inr ⟨c_1, rfl, rfl⟩) dJ9_min_f86c9_11 (jj_le rfl) (jj_le rfl)

set_option maxHeartbeats 4000000 in
set_option maxRecDepth 100000 in
theorem ct_J9_min_f86c9_2 {l : Launch} (hl : l.stackTraces = false) (D : va_G) (cA : Nat → ClassId) (ak : (Nat → Nat) × (Nat → Nat)) : jj_M l D cA ak yJ9_min_f86c9 (.code yJ9_min_f86c9 cJ9_min_f86c9 4 (some .long)) 0 0 0 0 [] [.long 0, .long 0] (fun (w : va_W) (r : Option Value) => (w = [] ∧ r = some (.long 0))) jj_noX := by
  refine jq_startF hl (by decide +kernel) jw_e0e7ffaaeb (jj_le rfl) ?_
  intro p e s m args below meth c A hargs hA C hex hmn
  refine jj_lload_n C dJ9_min_f86c9_0 rfl ?_
  refine jj_lload_n C dJ9_min_f86c9_1 rfl ?_
  refine jj_lcmp_gtF (tgt := 10) C dJ9_min_f86c9_2 dJ9_min_f86c9_3 (by decide) (by decide) ?_
  refine jj_lload_n C dJ9_min_f86c9_6 rfl ?_
  refine jj_goto (tgt := 11) C dJ9_min_f86c9_7 (by decide) ?_
  exact jj_lret C ⟨rfl, rfl⟩ dJ9_min_f86c9_11 (jj_le rfl) (jj_le rfl)

set_option maxHeartbeats 4000000 in
set_option maxRecDepth 100000 in
theorem ct_J9_min_f86c9_3 {l : Launch} (hl : l.stackTraces = false) (D : va_G) (cA : Nat → ClassId) (ak : (Nat → Nat) × (Nat → Nat)) (b0 : Int64) : jj_M l D cA ak yJ9_min_f86c9 (.code yJ9_min_f86c9 cJ9_min_f86c9 4 (some .long)) 0 0 0 0 [] [.long 1000000, .long b0] (fun (w : va_W) (r : Option Value) => (b0 < 1000000 ∧ w = [] ∧ r = some (.long b0)) ∨ (¬ b0 < 1000000 ∧ w = [] ∧ r = some (.long 1000000))) jj_noX := by
  refine jq_startF hl (by decide +kernel) jw_e0e7ffaaeb (jj_le rfl) ?_
  intro p e s m args below meth c A hargs hA C hex hmn
  refine jj_lload_n C dJ9_min_f86c9_0 rfl ?_
  refine jj_lload_n C dJ9_min_f86c9_1 rfl ?_
  refine jj_lcmp_gt (tgt := 10) C dJ9_min_f86c9_2 dJ9_min_f86c9_3 (by decide) (fun c_1 => ?_) (fun c_1 => ?_)
  · refine jj_lload_n C dJ9_min_f86c9_10 rfl ?_
    exact jj_lret C (Or.inl ⟨c_1, rfl, rfl⟩) dJ9_min_f86c9_11 (jj_le rfl) (jj_le rfl)
  · refine jj_lload_n C dJ9_min_f86c9_6 rfl ?_
    refine jj_goto (tgt := 11) C dJ9_min_f86c9_7 (by decide) ?_
    exact jj_lret C (Or.inr ⟨c_1, rfl, rfl⟩) dJ9_min_f86c9_11 (jj_le rfl) (jj_le rfl)

set_option maxHeartbeats 4000000 in
set_option maxRecDepth 100000 in
theorem ct_J9_floorDiv_7cf53_1 {l : Launch} (hl : l.stackTraces = false) (D : va_G) (cA : Nat → ClassId) (ak : (Nat → Nat) × (Nat → Nat)) (a0 : Int32) : jj_M l D cA ak yJ9_floorDiv_7cf53 (.code yJ9_floorDiv_7cf53 cJ9_floorDiv_7cf53 3 (some .int)) 0 0 0 0 [] [.int a0, .int 2] (fun (w : va_W) (r : Option Value) => (0 ≤ (a0 ^^^ 2) ∧ w = [] ∧ r = some (.int (a0 / 2))) ∨ (¬ 0 ≤ (a0 ^^^ 2) ∧ ((a0 / 2) * 2) = a0 ∧ w = [] ∧ r = some (.int (a0 / 2))) ∨ (¬ 0 ≤ (a0 ^^^ 2) ∧ ¬ ((a0 / 2) * 2) = a0 ∧ w = [] ∧ r = some (.int ((a0 / 2) - 1)))) jj_noX := by
  refine jq_startF hl (by decide +kernel) jw_44648bf58a (jj_le rfl) ?_
  intro p e s m args below meth c A hargs hA C hex hmn
  refine jj_iload_n C dJ9_floorDiv_7cf53_0 rfl ?_
  refine jj_iload_n C dJ9_floorDiv_7cf53_1 rfl ?_
  refine jj_idiv C dJ9_floorDiv_7cf53_2 (by decide) rfl ?_
  refine jj_istore_n C dJ9_floorDiv_7cf53_3 (by decide) rfl ?_
  refine jj_iload_n C dJ9_floorDiv_7cf53_4 rfl ?_
  refine jj_iload_n C dJ9_floorDiv_7cf53_5 rfl ?_
  refine jj_ixor C dJ9_floorDiv_7cf53_6 rfl ?_
  refine jj_if_ge (tgt := 21) C dJ9_floorDiv_7cf53_7 (by decide) (fun c_1 => ?_) (fun c_1 => ?_)
  · refine jj_iload_n C dJ9_floorDiv_7cf53_21 rfl ?_
    exact jj_iret C (Or.inl ⟨c_1, rfl, rfl⟩) dJ9_floorDiv_7cf53_22 (jj_le rfl) (jj_le rfl)
  · refine jj_iload_n C dJ9_floorDiv_7cf53_10 rfl ?_
    refine jj_iload_n C dJ9_floorDiv_7cf53_11 rfl ?_
    refine jj_imul C dJ9_floorDiv_7cf53_12 rfl ?_
    refine jj_iload_n C dJ9_floorDiv_7cf53_13 rfl ?_
    refine jj_icmp_eq (tgt := 21) C dJ9_floorDiv_7cf53_14 (by decide) (fun c_2 => ?_) (fun c_2 => ?_)
    · refine jj_iload_n C dJ9_floorDiv_7cf53_21 rfl ?_
      exact jj_iret C (Or.inr (Or.inl ⟨c_1, c_2, rfl, rfl⟩)) dJ9_floorDiv_7cf53_22 (jj_le rfl) (jj_le rfl)
    · refine jj_iload_n C dJ9_floorDiv_7cf53_17 rfl ?_
      refine jj_iconst (v := 1) C dJ9_floorDiv_7cf53_18 (by decide) ?_
      refine jj_isub C dJ9_floorDiv_7cf53_19 rfl ?_
      exact jj_iret C (Or.inr (Or.inr ⟨c_1, c_2, rfl, rfl⟩)) dJ9_floorDiv_7cf53_20 (jj_le rfl) (jj_le rfl)

set_option maxHeartbeats 4000000 in
set_option maxRecDepth 100000 in
theorem ct_J9_min_7cf53_1 {l : Launch} (hl : l.stackTraces = false) (D : va_G) (cA : Nat → ClassId) (ak : (Nat → Nat) × (Nat → Nat)) (a0 : Int32) : jj_M l D cA ak yJ9_min_7cf53 (.code yJ9_min_7cf53 cJ9_min_7cf53 2 (some .int)) 0 0 0 0 [] [.int a0, .int 5] (fun (w : va_W) (r : Option Value) => (5 < a0 ∧ w = [] ∧ r = some (.int 5)) ∨ (¬ 5 < a0 ∧ w = [] ∧ r = some (.int a0))) jj_noX := by
  refine jq_startF hl (by decide +kernel) jw_7adaf59315 (jj_le rfl) ?_
  intro p e s m args below meth c A hargs hA C hex hmn
  refine jj_iload_n C dJ9_min_7cf53_0 rfl ?_
  refine jj_iload_n C dJ9_min_7cf53_1 rfl ?_
  refine jj_icmp_gt (tgt := 9) C dJ9_min_7cf53_2 (by decide) (fun c_1 => ?_) (fun c_1 => ?_)
  · refine jj_iload_n C dJ9_min_7cf53_9 rfl ?_
    exact jj_iret C (Or.inl ⟨c_1, rfl, rfl⟩) dJ9_min_7cf53_10 (jj_le rfl) (jj_le rfl)
  · refine jj_iload_n C dJ9_min_7cf53_5 rfl ?_
    refine jj_goto (tgt := 10) C dJ9_min_7cf53_6 (by decide) ?_
    exact jj_iret C (Or.inr ⟨c_1, rfl, rfl⟩) dJ9_min_7cf53_10 (jj_le rfl) (jj_le rfl)

set_option maxHeartbeats 4000000 in
set_option maxRecDepth 100000 in
theorem ct_J9_min_7cf53_2 {l : Launch} (hl : l.stackTraces = false) (D : va_G) (cA : Nat → ClassId) (ak : (Nat → Nat) × (Nat → Nat)) (a0 : Int32) : jj_M l D cA ak yJ9_min_7cf53 (.code yJ9_min_7cf53 cJ9_min_7cf53 2 (some .int)) 0 0 0 0 [] [.int a0, .int 39] (fun (w : va_W) (r : Option Value) => (39 < a0 ∧ w = [] ∧ r = some (.int 39)) ∨ (¬ 39 < a0 ∧ w = [] ∧ r = some (.int a0))) jj_noX := by
  refine jq_startF hl (by decide +kernel) jw_7adaf59315 (jj_le rfl) ?_
  intro p e s m args below meth c A hargs hA C hex hmn
  refine jj_iload_n C dJ9_min_7cf53_0 rfl ?_
  refine jj_iload_n C dJ9_min_7cf53_1 rfl ?_
  refine jj_icmp_gt (tgt := 9) C dJ9_min_7cf53_2 (by decide) (fun c_1 => ?_) (fun c_1 => ?_)
  · refine jj_iload_n C dJ9_min_7cf53_9 rfl ?_
    exact jj_iret C (Or.inl ⟨c_1, rfl, rfl⟩) dJ9_min_7cf53_10 (jj_le rfl) (jj_le rfl)
  · refine jj_iload_n C dJ9_min_7cf53_5 rfl ?_
    refine jj_goto (tgt := 10) C dJ9_min_7cf53_6 (by decide) ?_
    exact jj_iret C (Or.inr ⟨c_1, rfl, rfl⟩) dJ9_min_7cf53_10 (jj_le rfl) (jj_le rfl)

set_option maxHeartbeats 4000000 in
set_option maxRecDepth 100000 in
theorem ct_J9_min_7cf53_3 {l : Launch} (hl : l.stackTraces = false) (D : va_G) (cA : Nat → ClassId) (ak : (Nat → Nat) × (Nat → Nat)) (a0 : Int32) : jj_M l D cA ak yJ9_min_7cf53 (.code yJ9_min_7cf53 cJ9_min_7cf53 2 (some .int)) 0 0 0 0 [] [.int a0, .int 11] (fun (w : va_W) (r : Option Value) => (11 < a0 ∧ w = [] ∧ r = some (.int 11)) ∨ (¬ 11 < a0 ∧ w = [] ∧ r = some (.int a0))) jj_noX := by
  refine jq_startF hl (by decide +kernel) jw_7adaf59315 (jj_le rfl) ?_
  intro p e s m args below meth c A hargs hA C hex hmn
  refine jj_iload_n C dJ9_min_7cf53_0 rfl ?_
  refine jj_iload_n C dJ9_min_7cf53_1 rfl ?_
  refine jj_icmp_gt (tgt := 9) C dJ9_min_7cf53_2 (by decide) (fun c_1 => ?_) (fun c_1 => ?_)
  · refine jj_iload_n C dJ9_min_7cf53_9 rfl ?_
    exact jj_iret C (Or.inl ⟨c_1, rfl, rfl⟩) dJ9_min_7cf53_10 (jj_le rfl) (jj_le rfl)
  · refine jj_iload_n C dJ9_min_7cf53_5 rfl ?_
    refine jj_goto (tgt := 10) C dJ9_min_7cf53_6 (by decide) ?_
    exact jj_iret C (Or.inr ⟨c_1, rfl, rfl⟩) dJ9_min_7cf53_10 (jj_le rfl) (jj_le rfl)

set_option maxHeartbeats 4000000 in
set_option maxRecDepth 100000 in
theorem ct_X3_init_1 {l : Launch} (hl : l.stackTraces = false) (D : va_G) (cA : Nat → ClassId) (ak : (Nat → Nat) × (Nat → Nat)) (h0 h1 h2 : Nat) : jj_I l D cA ak yX3_init (.code yX3_init cX3_init 3 none) 1 12 0 0 [(h0, .inr (4, [.null, .null, .int 0]))] [.ref h0, .ref h1, .ref h2] (fun (w : va_W) (r : Option Value) => (w = [(h0, .inr (4, [.ref h1, .ref h2, .int 0]))] ∧ r = none)) := by
  refine jj_startI hl (by decide) jw_815a5635de (jj_le rfl) ?_
  intro p e s m args below meth c A hargs hA C hmn
  refine jj_aload_n C dX3_init_0 rfl ?_
  refine jj_objInit C jw_9b9964c510 jw_449f795db0 jw_679af8422a (jj_le rfl) (jj_le rfl) dX3_init_1 ?_
  refine jj_aload_n C dX3_init_4 rfl ?_
  refine jj_iconst (v := 0) C dX3_init_5 (by decide) ?_
  refine jj_put C jk_4 2 (by decide) jw_c9663815d9 rfl 0 rfl rfl rfl rfl rfl dX3_init_6 ?_
  refine jj_aload_n C dX3_init_9 rfl ?_
  refine jj_aload_n C dX3_init_10 rfl ?_
  refine jj_putF C jk_4 0 (by decide) jw_70cd29f103 rfl hmn rfl 0 rfl rfl rfl rfl rfl dX3_init_11 ?_
  refine jj_aload_n C dX3_init_14 rfl ?_
  refine jj_aload_n C dX3_init_15 rfl ?_
  refine jj_putF C jk_4 1 (by decide) jw_bdf52ddf93 rfl hmn rfl 0 rfl rfl rfl rfl rfl dX3_init_16 ?_
  exact jj_vretI C ⟨rfl, rfl⟩ dX3_init_19 (jj_le rfl) (jj_le rfl)

set_option maxHeartbeats 4000000 in
set_option maxRecDepth 100000 in
theorem ct_J0_coder_7d493_1 {l : Launch} (hl : l.stackTraces = false) (D : va_G) (cA : Nat → ClassId) (ak : (Nat → Nat) × (Nat → Nat)) : jj_M l D cA ak yJ0_coder_7d493 (.code yJ0_coder_7d493 cJ0_coder_7d493 1 (some .byte)) 0 0 0 0 [] [.ref (ak.1 0)] (fun (w : va_W) (r : Option Value) => (w = [] ∧ r = some (.int 0))) jj_noX := by
  refine jj_start hl (by decide) jw_084b973d83 (jj_le rfl) ?_
  intro p e s m args below meth c A hargs hA C hex hmn
  refine jj_gcs C jw_478bb18c33 dJ0_coder_7d493_0 ?_
  refine jj_if_eqF (tgt := 13) C dJ0_coder_7d493_3 (by decide) (by decide) ?_
  refine jj_aload_n C dJ0_coder_7d493_6 rfl ?_
  refine jj_scod (k := 0) C (by decide) jw_7816d6e515 dJ0_coder_7d493_7 ?_
  refine jj_goto (tgt := 14) C dJ0_coder_7d493_10 (by decide) ?_
  exact jj_zret C rfl ⟨rfl, rfl⟩ dJ0_coder_7d493_14 (jj_le rfl) (jj_le rfl)

set_option maxHeartbeats 4000000 in
set_option maxRecDepth 100000 in
theorem ct_J0_length_8abf5_1 {l : Launch} (hl : l.stackTraces = false) (D : va_G) (cA : Nat → ClassId) (ak : (Nat → Nat) × (Nat → Nat)) : jj_M l D cA ak yJ0_length_8abf5 (.code yJ0_length_8abf5 cJ0_length_8abf5 1 (some .int)) 1 20 0 0 [] [.ref (ak.1 0)] (fun (w : va_W) (r : Option Value) => (w = [] ∧ r = some (.int 4))) jj_noX := by
  refine jj_start hl (by decide) jw_bbc7045666 (jj_le rfl) ?_
  intro p e s m args below meth c A hargs hA C hex hmn
  refine jj_aload_n C dJ0_length_8abf5_0 rfl ?_
  refine jj_sval (k := 0) C (by decide) jw_90a506b1c3 dJ0_length_8abf5_1 ?_
  refine jj_slen (k := 0) (v := 4) C (by decide) (by decide) dJ0_length_8abf5_4 ?_
  refine jj_aload_n C dJ0_length_8abf5_5 rfl ?_
  refine jq_callVs (rest := [.int 4]) C (ct_J0_coder_7d493_1 hl D cA ak) [] [] rfl rfl (by decide) (by decide) (by decide) 0 (by decide) rfl jw_f46b3464d2 jw_35edddbded jw_31f76f5b78 jw_4ea6285965 jw_084b973d83 jn_J0_coder_7d493 rfl (jj_le rfl) (jj_le rfl) (jj_le rfl) (jj_le rfl) (jj_le rfl) dJ0_length_8abf5_6 rfl (fun _ _ hX => hX.elim) (fun w1 r O_2 => ?_)
  obtain ⟨rfl, rfl⟩ := O_2
  refine jj_apd rfl ?_
  refine jj_ishr (v := 4) C dJ0_length_8abf5_9 (by decide) ?_
  exact jj_iret C ⟨rfl, rfl⟩ dJ0_length_8abf5_10 (jj_le rfl) (jj_le rfl)

set_option maxHeartbeats 4000000 in
set_option maxRecDepth 100000 in
theorem ct_J0_isLatin1_aae02_1 {l : Launch} (hl : l.stackTraces = false) (D : va_G) (cA : Nat → ClassId) (ak : (Nat → Nat) × (Nat → Nat)) : jj_M l D cA ak yJ0_isLatin1_aae02 (.code yJ0_isLatin1_aae02 cJ0_isLatin1_aae02 1 (some .boolean)) 0 0 0 0 [] [.ref (ak.1 0)] (fun (w : va_W) (r : Option Value) => (w = [] ∧ r = some (.int 1))) jj_noX := by
  refine jj_start hl (by decide) jw_1aa7753999 (jj_le rfl) ?_
  intro p e s m args below meth c A hargs hA C hex hmn
  refine jj_gcs C jw_478bb18c33 dJ0_isLatin1_aae02_0 ?_
  refine jj_if_eqF (tgt := 17) C dJ0_isLatin1_aae02_3 (by decide) (by decide) ?_
  refine jj_aload_n C dJ0_isLatin1_aae02_6 rfl ?_
  refine jj_scod (k := 0) C (by decide) jw_7816d6e515 dJ0_isLatin1_aae02_7 ?_
  refine jj_if_neF (tgt := 17) C dJ0_isLatin1_aae02_10 (by decide) (by decide) ?_
  refine jj_iconst (v := 1) C dJ0_isLatin1_aae02_13 (by decide) ?_
  refine jj_goto (tgt := 18) C dJ0_isLatin1_aae02_14 (by decide) ?_
  exact jj_zret C rfl ⟨rfl, rfl⟩ dJ0_isLatin1_aae02_18 (jj_le rfl) (jj_le rfl)

set_option maxHeartbeats 4000000 in
set_option maxRecDepth 100000 in
theorem ct_J3_checkIndex_8e157_1 {l : Launch} (hl : l.stackTraces = false) (D : va_G) (cA : Nat → ClassId) (ak : (Nat → Nat) × (Nat → Nat)) (h0 : Nat) : jj_M l D cA ak yJ3_checkIndex_8e157 (.code yJ3_checkIndex_8e157 cJ3_checkIndex_8e157 3 (some .int)) 0 0 0 0 [] [.int 0, .int 4, .ref h0] (fun (w : va_W) (r : Option Value) => (w = [] ∧ r = some (.int 0))) jj_noX := by
  refine jj_start hl (by decide) jw_da9869a695 (jj_le rfl) ?_
  intro p e s m args below meth c A hargs hA C hex hmn
  refine jj_iload_n C dJ3_checkIndex_8e157_0 rfl ?_
  refine jj_if_ltF (tgt := 9) C dJ3_checkIndex_8e157_1 (by decide) (by decide) ?_
  refine jj_iload_n C dJ3_checkIndex_8e157_4 rfl ?_
  refine jj_iload_n C dJ3_checkIndex_8e157_5 rfl ?_
  refine jj_icmp_ltT (tgt := 16) C dJ3_checkIndex_8e157_6 (by decide) (by decide) ?_
  refine jj_iload_n C dJ3_checkIndex_8e157_16 rfl ?_
  exact jj_iret C ⟨rfl, rfl⟩ dJ3_checkIndex_8e157_17 (jj_le rfl) (jj_le rfl)

set_option maxHeartbeats 4000000 in
set_option maxRecDepth 100000 in
theorem ct_J3_checkIndex_8e157_2 {l : Launch} (hl : l.stackTraces = false) (D : va_G) (cA : Nat → ClassId) (ak : (Nat → Nat) × (Nat → Nat)) : jj_M l D cA ak yJ3_checkIndex_8e157 (.code yJ3_checkIndex_8e157 cJ3_checkIndex_8e157 3 (some .int)) 0 0 0 0 [] [.int 0, .int 4, .null] (fun (w : va_W) (r : Option Value) => (w = [] ∧ r = some (.int 0))) jj_noX := by
  refine jj_start hl (by decide) jw_da9869a695 (jj_le rfl) ?_
  intro p e s m args below meth c A hargs hA C hex hmn
  refine jj_iload_n C dJ3_checkIndex_8e157_0 rfl ?_
  refine jj_if_ltF (tgt := 9) C dJ3_checkIndex_8e157_1 (by decide) (by decide) ?_
  refine jj_iload_n C dJ3_checkIndex_8e157_4 rfl ?_
  refine jj_iload_n C dJ3_checkIndex_8e157_5 rfl ?_
  refine jj_icmp_ltT (tgt := 16) C dJ3_checkIndex_8e157_6 (by decide) (by decide) ?_
  refine jj_iload_n C dJ3_checkIndex_8e157_16 rfl ?_
  exact jj_iret C ⟨rfl, rfl⟩ dJ3_checkIndex_8e157_17 (jj_le rfl) (jj_le rfl)

set_option maxHeartbeats 4000000 in
set_option maxRecDepth 100000 in
theorem ct_J0_checkIndex_df160_1 {l : Launch} (hl : l.stackTraces = false) (D : va_G) (cA : Nat → ClassId) (ak : (Nat → Nat) × (Nat → Nat)) : jj_M l D cA ak yJ0_checkIndex_df160 (.code yJ0_checkIndex_df160 cJ0_checkIndex_df160 2 none) 1 22 0 0 [] [.int 0, .int 4] (fun (w : va_W) (r : Option Value) => (w = [] ∧ r = none)) jj_noX := by
  refine jj_start hl (by decide) jw_73f64df4e3 (jj_le rfl) ?_
  intro p e s m args below meth c A hargs hA C hex hmn
  refine jj_iload_n C dJ0_checkIndex_df160_0 rfl ?_
  refine jj_iload_n C dJ0_checkIndex_df160_1 rfl ?_
  refine jj_gfm C jw_040150fc39 dJ0_checkIndex_df160_2 (fun t_1 => ?_) ?_
  · refine jq_callS (rest := []) C (ct_J3_checkIndex_8e157_1 hl D cA ak t_1) [] [] rfl rfl (by decide) (by decide) (by decide) jw_a7a8b385a1 jw_8d35bed6b0 jw_2c7dffdd00 jw_da9869a695 jn_J3_checkIndex_8e157 rfl (jj_le rfl) (jj_le rfl) (jj_le rfl) (jj_le rfl) (jj_le rfl) dJ0_checkIndex_df160_5 rfl (fun _ _ hX => hX.elim) (fun w1 r O_3 => ?_)
    obtain ⟨rfl, rfl⟩ := O_3
    refine jj_apd rfl ?_
    refine jj_pop C dJ0_checkIndex_df160_8 rfl ?_
    exact jj_vret C ⟨rfl, rfl⟩ dJ0_checkIndex_df160_9 (jj_le rfl) (jj_le rfl)
  · refine jq_callS (rest := []) C (ct_J3_checkIndex_8e157_2 hl D cA ak) [] [] rfl rfl (by decide) (by decide) (by decide) jw_a7a8b385a1 jw_8d35bed6b0 jw_2c7dffdd00 jw_da9869a695 jn_J3_checkIndex_8e157 rfl (jj_le rfl) (jj_le rfl) (jj_le rfl) (jj_le rfl) (jj_le rfl) dJ0_checkIndex_df160_5 rfl (fun _ _ hX => hX.elim) (fun w1 r O_5 => ?_)
    obtain ⟨rfl, rfl⟩ := O_5
    refine jj_apd rfl ?_
    refine jj_pop C dJ0_checkIndex_df160_8 rfl ?_
    exact jj_vret C ⟨rfl, rfl⟩ dJ0_checkIndex_df160_9 (jj_le rfl) (jj_le rfl)

set_option maxHeartbeats 4000000 in
set_option maxRecDepth 100000 in
theorem ct_J1_charAt_3b067_1 {l : Launch} (hl : l.stackTraces = false) (D : va_G) (cA : Nat → ClassId) (ak : (Nat → Nat) × (Nat → Nat)) : jj_M l D cA ak yJ1_charAt_3b067 (.code yJ1_charAt_3b067 cJ1_charAt_3b067 2 (some .char)) 2 43 0 0 [] [.ref (ak.2 0), .int 0] (fun (w : va_W) (r : Option Value) => (w = [] ∧ r = some (.int 102))) jj_noX := by
  refine jj_start hl (by decide) jw_6996a9eac3 (jj_le rfl) ?_
  intro p e s m args below meth c A hargs hA C hex hmn
  refine jj_iload_n C dJ1_charAt_3b067_0 rfl ?_
  refine jj_aload_n C dJ1_charAt_3b067_1 rfl ?_
  refine jj_slen (k := 0) (v := 4) C (by decide) (by decide) dJ1_charAt_3b067_2 ?_
  refine jq_callS (rest := []) C (ct_J0_checkIndex_df160_1 hl D cA ak) [] [] rfl rfl (by decide) (by decide) (by decide) jw_763fabfbf2 jw_9aa540e9dd jw_4ea6285965 jw_73f64df4e3 jn_J0_checkIndex_df160 rfl (jj_le rfl) (jj_le rfl) (jj_le rfl) (jj_le rfl) (jj_le rfl) dJ1_charAt_3b067_3 rfl (fun _ _ hX => hX.elim) (fun w1 r O_2 => ?_)
  obtain ⟨rfl, rfl⟩ := O_2
  refine jj_apd rfl ?_
  refine jj_aload_n C dJ1_charAt_3b067_6 rfl ?_
  refine jj_iload_n C dJ1_charAt_3b067_7 rfl ?_
  refine jj_sbyt (k := 0) (v := 102) C (by decide) (vp_in_iff.mpr (by decide)) (by decide) dJ1_charAt_3b067_8 ?_
  refine jj_sipush (v := 255) C dJ1_charAt_3b067_9 (by decide) ?_
  refine jj_iand (v := 102) C dJ1_charAt_3b067_12 (by decide) ?_
  refine jj_i2c (v := 102) C dJ1_charAt_3b067_13 (by decide) ?_
  exact jj_zret C rfl ⟨rfl, rfl⟩ dJ1_charAt_3b067_14 (jj_le rfl) (jj_le rfl)

set_option maxHeartbeats 4000000 in
set_option maxRecDepth 100000 in
theorem ct_J0_charAt_5068e_1 {l : Launch} (hl : l.stackTraces = false) (D : va_G) (cA : Nat → ClassId) (ak : (Nat → Nat) × (Nat → Nat)) : jj_M l D cA ak yJ0_charAt_5068e (.code yJ0_charAt_5068e cJ0_charAt_5068e 2 (some .char)) 3 64 0 0 [] [.ref (ak.1 0), .int 0] (fun (w : va_W) (r : Option Value) => (w = [] ∧ r = some (.int 102))) jj_noX := by
  refine jj_start hl (by decide) jw_391c0f56bd (jj_le rfl) ?_
  intro p e s m args below meth c A hargs hA C hex hmn
  refine jj_aload_n C dJ0_charAt_5068e_0 rfl ?_
  refine jq_callVs (rest := []) C (ct_J0_isLatin1_aae02_1 hl D cA ak) [] [] rfl rfl (by decide) (by decide) (by decide) 0 (by decide) rfl jw_5ca960aa2e jw_b7ba7c03ae jw_c4fe6f1e08 jw_4ea6285965 jw_1aa7753999 jn_J0_isLatin1_aae02 rfl (jj_le rfl) (jj_le rfl) (jj_le rfl) (jj_le rfl) (jj_le rfl) dJ0_charAt_5068e_1 rfl (fun _ _ hX => hX.elim) (fun w1 r O_2 => ?_)
  obtain ⟨rfl, rfl⟩ := O_2
  refine jj_apd rfl ?_
  refine jj_if_eqF (tgt := 16) C dJ0_charAt_5068e_4 (by decide) (by decide) ?_
  refine jj_aload_n C dJ0_charAt_5068e_7 rfl ?_
  refine jj_sval (k := 0) C (by decide) jw_90a506b1c3 dJ0_charAt_5068e_8 ?_
  refine jj_iload_n C dJ0_charAt_5068e_11 rfl ?_
  refine jq_callS (rest := []) C (ct_J1_charAt_3b067_1 hl D cA ak) [] [] rfl rfl (by decide) (by decide) (by decide) jw_7e2463d496 jw_530d7ac64c jw_2a3a2ce6ce jw_6996a9eac3 jn_J1_charAt_3b067 rfl (jj_le rfl) (jj_le rfl) (jj_le rfl) (jj_le rfl) (jj_le rfl) dJ0_charAt_5068e_12 rfl (fun _ _ hX => hX.elim) (fun w1 r O_4 => ?_)
  obtain ⟨rfl, rfl⟩ := O_4
  refine jj_apd rfl ?_
  exact jj_zret C rfl ⟨rfl, rfl⟩ dJ0_charAt_5068e_15 (jj_le rfl) (jj_le rfl)

set_option maxHeartbeats 4000000 in
set_option maxRecDepth 100000 in
theorem ct_J3_checkIndex_8e157_3 {l : Launch} (hl : l.stackTraces = false) (D : va_G) (cA : Nat → ClassId) (ak : (Nat → Nat) × (Nat → Nat)) (h0 : Nat) : jj_M l D cA ak yJ3_checkIndex_8e157 (.code yJ3_checkIndex_8e157 cJ3_checkIndex_8e157 3 (some .int)) 0 0 0 0 [] [.int 1, .int 4, .ref h0] (fun (w : va_W) (r : Option Value) => (w = [] ∧ r = some (.int 1))) jj_noX := by
  refine jj_start hl (by decide) jw_da9869a695 (jj_le rfl) ?_
  intro p e s m args below meth c A hargs hA C hex hmn
  refine jj_iload_n C dJ3_checkIndex_8e157_0 rfl ?_
  refine jj_if_ltF (tgt := 9) C dJ3_checkIndex_8e157_1 (by decide) (by decide) ?_
  refine jj_iload_n C dJ3_checkIndex_8e157_4 rfl ?_
  refine jj_iload_n C dJ3_checkIndex_8e157_5 rfl ?_
  refine jj_icmp_ltT (tgt := 16) C dJ3_checkIndex_8e157_6 (by decide) (by decide) ?_
  refine jj_iload_n C dJ3_checkIndex_8e157_16 rfl ?_
  exact jj_iret C ⟨rfl, rfl⟩ dJ3_checkIndex_8e157_17 (jj_le rfl) (jj_le rfl)

set_option maxHeartbeats 4000000 in
set_option maxRecDepth 100000 in
theorem ct_J3_checkIndex_8e157_4 {l : Launch} (hl : l.stackTraces = false) (D : va_G) (cA : Nat → ClassId) (ak : (Nat → Nat) × (Nat → Nat)) : jj_M l D cA ak yJ3_checkIndex_8e157 (.code yJ3_checkIndex_8e157 cJ3_checkIndex_8e157 3 (some .int)) 0 0 0 0 [] [.int 1, .int 4, .null] (fun (w : va_W) (r : Option Value) => (w = [] ∧ r = some (.int 1))) jj_noX := by
  refine jj_start hl (by decide) jw_da9869a695 (jj_le rfl) ?_
  intro p e s m args below meth c A hargs hA C hex hmn
  refine jj_iload_n C dJ3_checkIndex_8e157_0 rfl ?_
  refine jj_if_ltF (tgt := 9) C dJ3_checkIndex_8e157_1 (by decide) (by decide) ?_
  refine jj_iload_n C dJ3_checkIndex_8e157_4 rfl ?_
  refine jj_iload_n C dJ3_checkIndex_8e157_5 rfl ?_
  refine jj_icmp_ltT (tgt := 16) C dJ3_checkIndex_8e157_6 (by decide) (by decide) ?_
  refine jj_iload_n C dJ3_checkIndex_8e157_16 rfl ?_
  exact jj_iret C ⟨rfl, rfl⟩ dJ3_checkIndex_8e157_17 (jj_le rfl) (jj_le rfl)

set_option maxHeartbeats 4000000 in
set_option maxRecDepth 100000 in
theorem ct_J0_checkIndex_df160_2 {l : Launch} (hl : l.stackTraces = false) (D : va_G) (cA : Nat → ClassId) (ak : (Nat → Nat) × (Nat → Nat)) : jj_M l D cA ak yJ0_checkIndex_df160 (.code yJ0_checkIndex_df160 cJ0_checkIndex_df160 2 none) 1 22 0 0 [] [.int 1, .int 4] (fun (w : va_W) (r : Option Value) => (w = [] ∧ r = none)) jj_noX := by
  refine jj_start hl (by decide) jw_73f64df4e3 (jj_le rfl) ?_
  intro p e s m args below meth c A hargs hA C hex hmn
  refine jj_iload_n C dJ0_checkIndex_df160_0 rfl ?_
  refine jj_iload_n C dJ0_checkIndex_df160_1 rfl ?_
  refine jj_gfm C jw_040150fc39 dJ0_checkIndex_df160_2 (fun t_1 => ?_) ?_
  · refine jq_callS (rest := []) C (ct_J3_checkIndex_8e157_3 hl D cA ak t_1) [] [] rfl rfl (by decide) (by decide) (by decide) jw_a7a8b385a1 jw_8d35bed6b0 jw_2c7dffdd00 jw_da9869a695 jn_J3_checkIndex_8e157 rfl (jj_le rfl) (jj_le rfl) (jj_le rfl) (jj_le rfl) (jj_le rfl) dJ0_checkIndex_df160_5 rfl (fun _ _ hX => hX.elim) (fun w1 r O_3 => ?_)
    obtain ⟨rfl, rfl⟩ := O_3
    refine jj_apd rfl ?_
    refine jj_pop C dJ0_checkIndex_df160_8 rfl ?_
    exact jj_vret C ⟨rfl, rfl⟩ dJ0_checkIndex_df160_9 (jj_le rfl) (jj_le rfl)
  · refine jq_callS (rest := []) C (ct_J3_checkIndex_8e157_4 hl D cA ak) [] [] rfl rfl (by decide) (by decide) (by decide) jw_a7a8b385a1 jw_8d35bed6b0 jw_2c7dffdd00 jw_da9869a695 jn_J3_checkIndex_8e157 rfl (jj_le rfl) (jj_le rfl) (jj_le rfl) (jj_le rfl) (jj_le rfl) dJ0_checkIndex_df160_5 rfl (fun _ _ hX => hX.elim) (fun w1 r O_5 => ?_)
    obtain ⟨rfl, rfl⟩ := O_5
    refine jj_apd rfl ?_
    refine jj_pop C dJ0_checkIndex_df160_8 rfl ?_
    exact jj_vret C ⟨rfl, rfl⟩ dJ0_checkIndex_df160_9 (jj_le rfl) (jj_le rfl)

set_option maxHeartbeats 4000000 in
set_option maxRecDepth 100000 in
theorem ct_J1_charAt_3b067_2 {l : Launch} (hl : l.stackTraces = false) (D : va_G) (cA : Nat → ClassId) (ak : (Nat → Nat) × (Nat → Nat)) : jj_M l D cA ak yJ1_charAt_3b067 (.code yJ1_charAt_3b067 cJ1_charAt_3b067 2 (some .char)) 2 43 0 0 [] [.ref (ak.2 0), .int 1] (fun (w : va_W) (r : Option Value) => (w = [] ∧ r = some (.int 117))) jj_noX := by
  refine jj_start hl (by decide) jw_6996a9eac3 (jj_le rfl) ?_
  intro p e s m args below meth c A hargs hA C hex hmn
  refine jj_iload_n C dJ1_charAt_3b067_0 rfl ?_
  refine jj_aload_n C dJ1_charAt_3b067_1 rfl ?_
  refine jj_slen (k := 0) (v := 4) C (by decide) (by decide) dJ1_charAt_3b067_2 ?_
  refine jq_callS (rest := []) C (ct_J0_checkIndex_df160_2 hl D cA ak) [] [] rfl rfl (by decide) (by decide) (by decide) jw_763fabfbf2 jw_9aa540e9dd jw_4ea6285965 jw_73f64df4e3 jn_J0_checkIndex_df160 rfl (jj_le rfl) (jj_le rfl) (jj_le rfl) (jj_le rfl) (jj_le rfl) dJ1_charAt_3b067_3 rfl (fun _ _ hX => hX.elim) (fun w1 r O_2 => ?_)
  obtain ⟨rfl, rfl⟩ := O_2
  refine jj_apd rfl ?_
  refine jj_aload_n C dJ1_charAt_3b067_6 rfl ?_
  refine jj_iload_n C dJ1_charAt_3b067_7 rfl ?_
  refine jj_sbyt (k := 0) (v := 117) C (by decide) (vp_in_iff.mpr (by decide)) (by decide) dJ1_charAt_3b067_8 ?_
  refine jj_sipush (v := 255) C dJ1_charAt_3b067_9 (by decide) ?_
  refine jj_iand (v := 117) C dJ1_charAt_3b067_12 (by decide) ?_
  refine jj_i2c (v := 117) C dJ1_charAt_3b067_13 (by decide) ?_
  exact jj_zret C rfl ⟨rfl, rfl⟩ dJ1_charAt_3b067_14 (jj_le rfl) (jj_le rfl)

set_option maxHeartbeats 4000000 in
set_option maxRecDepth 100000 in
theorem ct_J0_charAt_5068e_2 {l : Launch} (hl : l.stackTraces = false) (D : va_G) (cA : Nat → ClassId) (ak : (Nat → Nat) × (Nat → Nat)) : jj_M l D cA ak yJ0_charAt_5068e (.code yJ0_charAt_5068e cJ0_charAt_5068e 2 (some .char)) 3 64 0 0 [] [.ref (ak.1 0), .int 1] (fun (w : va_W) (r : Option Value) => (w = [] ∧ r = some (.int 117))) jj_noX := by
  refine jj_start hl (by decide) jw_391c0f56bd (jj_le rfl) ?_
  intro p e s m args below meth c A hargs hA C hex hmn
  refine jj_aload_n C dJ0_charAt_5068e_0 rfl ?_
  refine jq_callVs (rest := []) C (ct_J0_isLatin1_aae02_1 hl D cA ak) [] [] rfl rfl (by decide) (by decide) (by decide) 0 (by decide) rfl jw_5ca960aa2e jw_b7ba7c03ae jw_c4fe6f1e08 jw_4ea6285965 jw_1aa7753999 jn_J0_isLatin1_aae02 rfl (jj_le rfl) (jj_le rfl) (jj_le rfl) (jj_le rfl) (jj_le rfl) dJ0_charAt_5068e_1 rfl (fun _ _ hX => hX.elim) (fun w1 r O_2 => ?_)
  obtain ⟨rfl, rfl⟩ := O_2
  refine jj_apd rfl ?_
  refine jj_if_eqF (tgt := 16) C dJ0_charAt_5068e_4 (by decide) (by decide) ?_
  refine jj_aload_n C dJ0_charAt_5068e_7 rfl ?_
  refine jj_sval (k := 0) C (by decide) jw_90a506b1c3 dJ0_charAt_5068e_8 ?_
  refine jj_iload_n C dJ0_charAt_5068e_11 rfl ?_
  refine jq_callS (rest := []) C (ct_J1_charAt_3b067_2 hl D cA ak) [] [] rfl rfl (by decide) (by decide) (by decide) jw_7e2463d496 jw_530d7ac64c jw_2a3a2ce6ce jw_6996a9eac3 jn_J1_charAt_3b067 rfl (jj_le rfl) (jj_le rfl) (jj_le rfl) (jj_le rfl) (jj_le rfl) dJ0_charAt_5068e_12 rfl (fun _ _ hX => hX.elim) (fun w1 r O_4 => ?_)
  obtain ⟨rfl, rfl⟩ := O_4
  refine jj_apd rfl ?_
  exact jj_zret C rfl ⟨rfl, rfl⟩ dJ0_charAt_5068e_15 (jj_le rfl) (jj_le rfl)

set_option maxHeartbeats 4000000 in
set_option maxRecDepth 100000 in
theorem ct_J3_checkIndex_8e157_5 {l : Launch} (hl : l.stackTraces = false) (D : va_G) (cA : Nat → ClassId) (ak : (Nat → Nat) × (Nat → Nat)) (h0 : Nat) : jj_M l D cA ak yJ3_checkIndex_8e157 (.code yJ3_checkIndex_8e157 cJ3_checkIndex_8e157 3 (some .int)) 0 0 0 0 [] [.int 2, .int 4, .ref h0] (fun (w : va_W) (r : Option Value) => (w = [] ∧ r = some (.int 2))) jj_noX := by
  refine jj_start hl (by decide) jw_da9869a695 (jj_le rfl) ?_
  intro p e s m args below meth c A hargs hA C hex hmn
  refine jj_iload_n C dJ3_checkIndex_8e157_0 rfl ?_
  refine jj_if_ltF (tgt := 9) C dJ3_checkIndex_8e157_1 (by decide) (by decide) ?_
  refine jj_iload_n C dJ3_checkIndex_8e157_4 rfl ?_
  refine jj_iload_n C dJ3_checkIndex_8e157_5 rfl ?_
  refine jj_icmp_ltT (tgt := 16) C dJ3_checkIndex_8e157_6 (by decide) (by decide) ?_
  refine jj_iload_n C dJ3_checkIndex_8e157_16 rfl ?_
  exact jj_iret C ⟨rfl, rfl⟩ dJ3_checkIndex_8e157_17 (jj_le rfl) (jj_le rfl)

set_option maxHeartbeats 4000000 in
set_option maxRecDepth 100000 in
theorem ct_J3_checkIndex_8e157_6 {l : Launch} (hl : l.stackTraces = false) (D : va_G) (cA : Nat → ClassId) (ak : (Nat → Nat) × (Nat → Nat)) : jj_M l D cA ak yJ3_checkIndex_8e157 (.code yJ3_checkIndex_8e157 cJ3_checkIndex_8e157 3 (some .int)) 0 0 0 0 [] [.int 2, .int 4, .null] (fun (w : va_W) (r : Option Value) => (w = [] ∧ r = some (.int 2))) jj_noX := by
  refine jj_start hl (by decide) jw_da9869a695 (jj_le rfl) ?_
  intro p e s m args below meth c A hargs hA C hex hmn
  refine jj_iload_n C dJ3_checkIndex_8e157_0 rfl ?_
  refine jj_if_ltF (tgt := 9) C dJ3_checkIndex_8e157_1 (by decide) (by decide) ?_
  refine jj_iload_n C dJ3_checkIndex_8e157_4 rfl ?_
  refine jj_iload_n C dJ3_checkIndex_8e157_5 rfl ?_
  refine jj_icmp_ltT (tgt := 16) C dJ3_checkIndex_8e157_6 (by decide) (by decide) ?_
  refine jj_iload_n C dJ3_checkIndex_8e157_16 rfl ?_
  exact jj_iret C ⟨rfl, rfl⟩ dJ3_checkIndex_8e157_17 (jj_le rfl) (jj_le rfl)

set_option maxHeartbeats 4000000 in
set_option maxRecDepth 100000 in
theorem ct_J0_checkIndex_df160_3 {l : Launch} (hl : l.stackTraces = false) (D : va_G) (cA : Nat → ClassId) (ak : (Nat → Nat) × (Nat → Nat)) : jj_M l D cA ak yJ0_checkIndex_df160 (.code yJ0_checkIndex_df160 cJ0_checkIndex_df160 2 none) 1 22 0 0 [] [.int 2, .int 4] (fun (w : va_W) (r : Option Value) => (w = [] ∧ r = none)) jj_noX := by
  refine jj_start hl (by decide) jw_73f64df4e3 (jj_le rfl) ?_
  intro p e s m args below meth c A hargs hA C hex hmn
  refine jj_iload_n C dJ0_checkIndex_df160_0 rfl ?_
  refine jj_iload_n C dJ0_checkIndex_df160_1 rfl ?_
  refine jj_gfm C jw_040150fc39 dJ0_checkIndex_df160_2 (fun t_1 => ?_) ?_
  · refine jq_callS (rest := []) C (ct_J3_checkIndex_8e157_5 hl D cA ak t_1) [] [] rfl rfl (by decide) (by decide) (by decide) jw_a7a8b385a1 jw_8d35bed6b0 jw_2c7dffdd00 jw_da9869a695 jn_J3_checkIndex_8e157 rfl (jj_le rfl) (jj_le rfl) (jj_le rfl) (jj_le rfl) (jj_le rfl) dJ0_checkIndex_df160_5 rfl (fun _ _ hX => hX.elim) (fun w1 r O_3 => ?_)
    obtain ⟨rfl, rfl⟩ := O_3
    refine jj_apd rfl ?_
    refine jj_pop C dJ0_checkIndex_df160_8 rfl ?_
    exact jj_vret C ⟨rfl, rfl⟩ dJ0_checkIndex_df160_9 (jj_le rfl) (jj_le rfl)
  · refine jq_callS (rest := []) C (ct_J3_checkIndex_8e157_6 hl D cA ak) [] [] rfl rfl (by decide) (by decide) (by decide) jw_a7a8b385a1 jw_8d35bed6b0 jw_2c7dffdd00 jw_da9869a695 jn_J3_checkIndex_8e157 rfl (jj_le rfl) (jj_le rfl) (jj_le rfl) (jj_le rfl) (jj_le rfl) dJ0_checkIndex_df160_5 rfl (fun _ _ hX => hX.elim) (fun w1 r O_5 => ?_)
    obtain ⟨rfl, rfl⟩ := O_5
    refine jj_apd rfl ?_
    refine jj_pop C dJ0_checkIndex_df160_8 rfl ?_
    exact jj_vret C ⟨rfl, rfl⟩ dJ0_checkIndex_df160_9 (jj_le rfl) (jj_le rfl)

set_option maxHeartbeats 4000000 in
set_option maxRecDepth 100000 in
theorem ct_J1_charAt_3b067_3 {l : Launch} (hl : l.stackTraces = false) (D : va_G) (cA : Nat → ClassId) (ak : (Nat → Nat) × (Nat → Nat)) : jj_M l D cA ak yJ1_charAt_3b067 (.code yJ1_charAt_3b067 cJ1_charAt_3b067 2 (some .char)) 2 43 0 0 [] [.ref (ak.2 0), .int 2] (fun (w : va_W) (r : Option Value) => (w = [] ∧ r = some (.int 110))) jj_noX := by
  refine jj_start hl (by decide) jw_6996a9eac3 (jj_le rfl) ?_
  intro p e s m args below meth c A hargs hA C hex hmn
  refine jj_iload_n C dJ1_charAt_3b067_0 rfl ?_
  refine jj_aload_n C dJ1_charAt_3b067_1 rfl ?_
  refine jj_slen (k := 0) (v := 4) C (by decide) (by decide) dJ1_charAt_3b067_2 ?_
  refine jq_callS (rest := []) C (ct_J0_checkIndex_df160_3 hl D cA ak) [] [] rfl rfl (by decide) (by decide) (by decide) jw_763fabfbf2 jw_9aa540e9dd jw_4ea6285965 jw_73f64df4e3 jn_J0_checkIndex_df160 rfl (jj_le rfl) (jj_le rfl) (jj_le rfl) (jj_le rfl) (jj_le rfl) dJ1_charAt_3b067_3 rfl (fun _ _ hX => hX.elim) (fun w1 r O_2 => ?_)
  obtain ⟨rfl, rfl⟩ := O_2
  refine jj_apd rfl ?_
  refine jj_aload_n C dJ1_charAt_3b067_6 rfl ?_
  refine jj_iload_n C dJ1_charAt_3b067_7 rfl ?_
  refine jj_sbyt (k := 0) (v := 110) C (by decide) (vp_in_iff.mpr (by decide)) (by decide) dJ1_charAt_3b067_8 ?_
  refine jj_sipush (v := 255) C dJ1_charAt_3b067_9 (by decide) ?_
  refine jj_iand (v := 110) C dJ1_charAt_3b067_12 (by decide) ?_
  refine jj_i2c (v := 110) C dJ1_charAt_3b067_13 (by decide) ?_
  exact jj_zret C rfl ⟨rfl, rfl⟩ dJ1_charAt_3b067_14 (jj_le rfl) (jj_le rfl)

set_option maxHeartbeats 4000000 in
set_option maxRecDepth 100000 in
theorem ct_J0_charAt_5068e_3 {l : Launch} (hl : l.stackTraces = false) (D : va_G) (cA : Nat → ClassId) (ak : (Nat → Nat) × (Nat → Nat)) : jj_M l D cA ak yJ0_charAt_5068e (.code yJ0_charAt_5068e cJ0_charAt_5068e 2 (some .char)) 3 64 0 0 [] [.ref (ak.1 0), .int 2] (fun (w : va_W) (r : Option Value) => (w = [] ∧ r = some (.int 110))) jj_noX := by
  refine jj_start hl (by decide) jw_391c0f56bd (jj_le rfl) ?_
  intro p e s m args below meth c A hargs hA C hex hmn
  refine jj_aload_n C dJ0_charAt_5068e_0 rfl ?_
  refine jq_callVs (rest := []) C (ct_J0_isLatin1_aae02_1 hl D cA ak) [] [] rfl rfl (by decide) (by decide) (by decide) 0 (by decide) rfl jw_5ca960aa2e jw_b7ba7c03ae jw_c4fe6f1e08 jw_4ea6285965 jw_1aa7753999 jn_J0_isLatin1_aae02 rfl (jj_le rfl) (jj_le rfl) (jj_le rfl) (jj_le rfl) (jj_le rfl) dJ0_charAt_5068e_1 rfl (fun _ _ hX => hX.elim) (fun w1 r O_2 => ?_)
  obtain ⟨rfl, rfl⟩ := O_2
  refine jj_apd rfl ?_
  refine jj_if_eqF (tgt := 16) C dJ0_charAt_5068e_4 (by decide) (by decide) ?_
  refine jj_aload_n C dJ0_charAt_5068e_7 rfl ?_
  refine jj_sval (k := 0) C (by decide) jw_90a506b1c3 dJ0_charAt_5068e_8 ?_
  refine jj_iload_n C dJ0_charAt_5068e_11 rfl ?_
  refine jq_callS (rest := []) C (ct_J1_charAt_3b067_3 hl D cA ak) [] [] rfl rfl (by decide) (by decide) (by decide) jw_7e2463d496 jw_530d7ac64c jw_2a3a2ce6ce jw_6996a9eac3 jn_J1_charAt_3b067 rfl (jj_le rfl) (jj_le rfl) (jj_le rfl) (jj_le rfl) (jj_le rfl) dJ0_charAt_5068e_12 rfl (fun _ _ hX => hX.elim) (fun w1 r O_4 => ?_)
  obtain ⟨rfl, rfl⟩ := O_4
  refine jj_apd rfl ?_
  exact jj_zret C rfl ⟨rfl, rfl⟩ dJ0_charAt_5068e_15 (jj_le rfl) (jj_le rfl)

set_option maxHeartbeats 4000000 in
set_option maxRecDepth 100000 in
theorem ct_J3_checkIndex_8e157_7 {l : Launch} (hl : l.stackTraces = false) (D : va_G) (cA : Nat → ClassId) (ak : (Nat → Nat) × (Nat → Nat)) (h0 : Nat) : jj_M l D cA ak yJ3_checkIndex_8e157 (.code yJ3_checkIndex_8e157 cJ3_checkIndex_8e157 3 (some .int)) 0 0 0 0 [] [.int 3, .int 4, .ref h0] (fun (w : va_W) (r : Option Value) => (w = [] ∧ r = some (.int 3))) jj_noX := by
  refine jj_start hl (by decide) jw_da9869a695 (jj_le rfl) ?_
  intro p e s m args below meth c A hargs hA C hex hmn
  refine jj_iload_n C dJ3_checkIndex_8e157_0 rfl ?_
  refine jj_if_ltF (tgt := 9) C dJ3_checkIndex_8e157_1 (by decide) (by decide) ?_
  refine jj_iload_n C dJ3_checkIndex_8e157_4 rfl ?_
  refine jj_iload_n C dJ3_checkIndex_8e157_5 rfl ?_
  refine jj_icmp_ltT (tgt := 16) C dJ3_checkIndex_8e157_6 (by decide) (by decide) ?_
  refine jj_iload_n C dJ3_checkIndex_8e157_16 rfl ?_
  exact jj_iret C ⟨rfl, rfl⟩ dJ3_checkIndex_8e157_17 (jj_le rfl) (jj_le rfl)

set_option maxHeartbeats 4000000 in
set_option maxRecDepth 100000 in
theorem ct_J3_checkIndex_8e157_8 {l : Launch} (hl : l.stackTraces = false) (D : va_G) (cA : Nat → ClassId) (ak : (Nat → Nat) × (Nat → Nat)) : jj_M l D cA ak yJ3_checkIndex_8e157 (.code yJ3_checkIndex_8e157 cJ3_checkIndex_8e157 3 (some .int)) 0 0 0 0 [] [.int 3, .int 4, .null] (fun (w : va_W) (r : Option Value) => (w = [] ∧ r = some (.int 3))) jj_noX := by
  refine jj_start hl (by decide) jw_da9869a695 (jj_le rfl) ?_
  intro p e s m args below meth c A hargs hA C hex hmn
  refine jj_iload_n C dJ3_checkIndex_8e157_0 rfl ?_
  refine jj_if_ltF (tgt := 9) C dJ3_checkIndex_8e157_1 (by decide) (by decide) ?_
  refine jj_iload_n C dJ3_checkIndex_8e157_4 rfl ?_
  refine jj_iload_n C dJ3_checkIndex_8e157_5 rfl ?_
  refine jj_icmp_ltT (tgt := 16) C dJ3_checkIndex_8e157_6 (by decide) (by decide) ?_
  refine jj_iload_n C dJ3_checkIndex_8e157_16 rfl ?_
  exact jj_iret C ⟨rfl, rfl⟩ dJ3_checkIndex_8e157_17 (jj_le rfl) (jj_le rfl)

set_option maxHeartbeats 4000000 in
set_option maxRecDepth 100000 in
theorem ct_J0_checkIndex_df160_4 {l : Launch} (hl : l.stackTraces = false) (D : va_G) (cA : Nat → ClassId) (ak : (Nat → Nat) × (Nat → Nat)) : jj_M l D cA ak yJ0_checkIndex_df160 (.code yJ0_checkIndex_df160 cJ0_checkIndex_df160 2 none) 1 22 0 0 [] [.int 3, .int 4] (fun (w : va_W) (r : Option Value) => (w = [] ∧ r = none)) jj_noX := by
  refine jj_start hl (by decide) jw_73f64df4e3 (jj_le rfl) ?_
  intro p e s m args below meth c A hargs hA C hex hmn
  refine jj_iload_n C dJ0_checkIndex_df160_0 rfl ?_
  refine jj_iload_n C dJ0_checkIndex_df160_1 rfl ?_
  refine jj_gfm C jw_040150fc39 dJ0_checkIndex_df160_2 (fun t_1 => ?_) ?_
  · refine jq_callS (rest := []) C (ct_J3_checkIndex_8e157_7 hl D cA ak t_1) [] [] rfl rfl (by decide) (by decide) (by decide) jw_a7a8b385a1 jw_8d35bed6b0 jw_2c7dffdd00 jw_da9869a695 jn_J3_checkIndex_8e157 rfl (jj_le rfl) (jj_le rfl) (jj_le rfl) (jj_le rfl) (jj_le rfl) dJ0_checkIndex_df160_5 rfl (fun _ _ hX => hX.elim) (fun w1 r O_3 => ?_)
    obtain ⟨rfl, rfl⟩ := O_3
    refine jj_apd rfl ?_
    refine jj_pop C dJ0_checkIndex_df160_8 rfl ?_
    exact jj_vret C ⟨rfl, rfl⟩ dJ0_checkIndex_df160_9 (jj_le rfl) (jj_le rfl)
  · refine jq_callS (rest := []) C (ct_J3_checkIndex_8e157_8 hl D cA ak) [] [] rfl rfl (by decide) (by decide) (by decide) jw_a7a8b385a1 jw_8d35bed6b0 jw_2c7dffdd00 jw_da9869a695 jn_J3_checkIndex_8e157 rfl (jj_le rfl) (jj_le rfl) (jj_le rfl) (jj_le rfl) (jj_le rfl) dJ0_checkIndex_df160_5 rfl (fun _ _ hX => hX.elim) (fun w1 r O_5 => ?_)
    obtain ⟨rfl, rfl⟩ := O_5
    refine jj_apd rfl ?_
    refine jj_pop C dJ0_checkIndex_df160_8 rfl ?_
    exact jj_vret C ⟨rfl, rfl⟩ dJ0_checkIndex_df160_9 (jj_le rfl) (jj_le rfl)

set_option maxHeartbeats 4000000 in
set_option maxRecDepth 100000 in
theorem ct_J1_charAt_3b067_4 {l : Launch} (hl : l.stackTraces = false) (D : va_G) (cA : Nat → ClassId) (ak : (Nat → Nat) × (Nat → Nat)) : jj_M l D cA ak yJ1_charAt_3b067 (.code yJ1_charAt_3b067 cJ1_charAt_3b067 2 (some .char)) 2 43 0 0 [] [.ref (ak.2 0), .int 3] (fun (w : va_W) (r : Option Value) => (w = [] ∧ r = some (.int 100))) jj_noX := by
  refine jj_start hl (by decide) jw_6996a9eac3 (jj_le rfl) ?_
  intro p e s m args below meth c A hargs hA C hex hmn
  refine jj_iload_n C dJ1_charAt_3b067_0 rfl ?_
  refine jj_aload_n C dJ1_charAt_3b067_1 rfl ?_
  refine jj_slen (k := 0) (v := 4) C (by decide) (by decide) dJ1_charAt_3b067_2 ?_
  refine jq_callS (rest := []) C (ct_J0_checkIndex_df160_4 hl D cA ak) [] [] rfl rfl (by decide) (by decide) (by decide) jw_763fabfbf2 jw_9aa540e9dd jw_4ea6285965 jw_73f64df4e3 jn_J0_checkIndex_df160 rfl (jj_le rfl) (jj_le rfl) (jj_le rfl) (jj_le rfl) (jj_le rfl) dJ1_charAt_3b067_3 rfl (fun _ _ hX => hX.elim) (fun w1 r O_2 => ?_)
  obtain ⟨rfl, rfl⟩ := O_2
  refine jj_apd rfl ?_
  refine jj_aload_n C dJ1_charAt_3b067_6 rfl ?_
  refine jj_iload_n C dJ1_charAt_3b067_7 rfl ?_
  refine jj_sbyt (k := 0) (v := 100) C (by decide) (vp_in_iff.mpr (by decide)) (by decide) dJ1_charAt_3b067_8 ?_
  refine jj_sipush (v := 255) C dJ1_charAt_3b067_9 (by decide) ?_
  refine jj_iand (v := 100) C dJ1_charAt_3b067_12 (by decide) ?_
  refine jj_i2c (v := 100) C dJ1_charAt_3b067_13 (by decide) ?_
  exact jj_zret C rfl ⟨rfl, rfl⟩ dJ1_charAt_3b067_14 (jj_le rfl) (jj_le rfl)

set_option maxHeartbeats 4000000 in
set_option maxRecDepth 100000 in
theorem ct_J0_charAt_5068e_4 {l : Launch} (hl : l.stackTraces = false) (D : va_G) (cA : Nat → ClassId) (ak : (Nat → Nat) × (Nat → Nat)) : jj_M l D cA ak yJ0_charAt_5068e (.code yJ0_charAt_5068e cJ0_charAt_5068e 2 (some .char)) 3 64 0 0 [] [.ref (ak.1 0), .int 3] (fun (w : va_W) (r : Option Value) => (w = [] ∧ r = some (.int 100))) jj_noX := by
  refine jj_start hl (by decide) jw_391c0f56bd (jj_le rfl) ?_
  intro p e s m args below meth c A hargs hA C hex hmn
  refine jj_aload_n C dJ0_charAt_5068e_0 rfl ?_
  refine jq_callVs (rest := []) C (ct_J0_isLatin1_aae02_1 hl D cA ak) [] [] rfl rfl (by decide) (by decide) (by decide) 0 (by decide) rfl jw_5ca960aa2e jw_b7ba7c03ae jw_c4fe6f1e08 jw_4ea6285965 jw_1aa7753999 jn_J0_isLatin1_aae02 rfl (jj_le rfl) (jj_le rfl) (jj_le rfl) (jj_le rfl) (jj_le rfl) dJ0_charAt_5068e_1 rfl (fun _ _ hX => hX.elim) (fun w1 r O_2 => ?_)
  obtain ⟨rfl, rfl⟩ := O_2
  refine jj_apd rfl ?_
  refine jj_if_eqF (tgt := 16) C dJ0_charAt_5068e_4 (by decide) (by decide) ?_
  refine jj_aload_n C dJ0_charAt_5068e_7 rfl ?_
  refine jj_sval (k := 0) C (by decide) jw_90a506b1c3 dJ0_charAt_5068e_8 ?_
  refine jj_iload_n C dJ0_charAt_5068e_11 rfl ?_
  refine jq_callS (rest := []) C (ct_J1_charAt_3b067_4 hl D cA ak) [] [] rfl rfl (by decide) (by decide) (by decide) jw_7e2463d496 jw_530d7ac64c jw_2a3a2ce6ce jw_6996a9eac3 jn_J1_charAt_3b067 rfl (jj_le rfl) (jj_le rfl) (jj_le rfl) (jj_le rfl) (jj_le rfl) dJ0_charAt_5068e_12 rfl (fun _ _ hX => hX.elim) (fun w1 r O_4 => ?_)
  obtain ⟨rfl, rfl⟩ := O_4
  refine jj_apd rfl ?_
  exact jj_zret C rfl ⟨rfl, rfl⟩ dJ0_charAt_5068e_15 (jj_le rfl) (jj_le rfl)

set_option maxHeartbeats 4000000 in
set_option maxRecDepth 100000 in
theorem ct_J0_coder_7d493_2 {l : Launch} (hl : l.stackTraces = false) (D : va_G) (cA : Nat → ClassId) (ak : (Nat → Nat) × (Nat → Nat)) : jj_M l D cA ak yJ0_coder_7d493 (.code yJ0_coder_7d493 cJ0_coder_7d493 1 (some .byte)) 0 0 0 0 [] [.ref (ak.1 1)] (fun (w : va_W) (r : Option Value) => (w = [] ∧ r = some (.int 0))) jj_noX := by
  refine jj_start hl (by decide) jw_084b973d83 (jj_le rfl) ?_
  intro p e s m args below meth c A hargs hA C hex hmn
  refine jj_gcs C jw_478bb18c33 dJ0_coder_7d493_0 ?_
  refine jj_if_eqF (tgt := 13) C dJ0_coder_7d493_3 (by decide) (by decide) ?_
  refine jj_aload_n C dJ0_coder_7d493_6 rfl ?_
  refine jj_scod (k := 1) C (by decide) jw_7816d6e515 dJ0_coder_7d493_7 ?_
  refine jj_goto (tgt := 14) C dJ0_coder_7d493_10 (by decide) ?_
  exact jj_zret C rfl ⟨rfl, rfl⟩ dJ0_coder_7d493_14 (jj_le rfl) (jj_le rfl)

set_option maxHeartbeats 4000000 in
set_option maxRecDepth 100000 in
theorem ct_J0_length_8abf5_2 {l : Launch} (hl : l.stackTraces = false) (D : va_G) (cA : Nat → ClassId) (ak : (Nat → Nat) × (Nat → Nat)) : jj_M l D cA ak yJ0_length_8abf5 (.code yJ0_length_8abf5 cJ0_length_8abf5 1 (some .int)) 1 20 0 0 [] [.ref (ak.1 1)] (fun (w : va_W) (r : Option Value) => (w = [] ∧ r = some (.int 5))) jj_noX := by
  refine jj_start hl (by decide) jw_bbc7045666 (jj_le rfl) ?_
  intro p e s m args below meth c A hargs hA C hex hmn
  refine jj_aload_n C dJ0_length_8abf5_0 rfl ?_
  refine jj_sval (k := 1) C (by decide) jw_90a506b1c3 dJ0_length_8abf5_1 ?_
  refine jj_slen (k := 1) (v := 5) C (by decide) (by decide) dJ0_length_8abf5_4 ?_
  refine jj_aload_n C dJ0_length_8abf5_5 rfl ?_
  refine jq_callVs (rest := [.int 5]) C (ct_J0_coder_7d493_2 hl D cA ak) [] [] rfl rfl (by decide) (by decide) (by decide) 1 (by decide) rfl jw_f46b3464d2 jw_35edddbded jw_31f76f5b78 jw_4ea6285965 jw_084b973d83 jn_J0_coder_7d493 rfl (jj_le rfl) (jj_le rfl) (jj_le rfl) (jj_le rfl) (jj_le rfl) dJ0_length_8abf5_6 rfl (fun _ _ hX => hX.elim) (fun w1 r O_2 => ?_)
  obtain ⟨rfl, rfl⟩ := O_2
  refine jj_apd rfl ?_
  refine jj_ishr (v := 5) C dJ0_length_8abf5_9 (by decide) ?_
  exact jj_iret C ⟨rfl, rfl⟩ dJ0_length_8abf5_10 (jj_le rfl) (jj_le rfl)

set_option maxHeartbeats 4000000 in
set_option maxRecDepth 100000 in
theorem ct_J0_isLatin1_aae02_2 {l : Launch} (hl : l.stackTraces = false) (D : va_G) (cA : Nat → ClassId) (ak : (Nat → Nat) × (Nat → Nat)) : jj_M l D cA ak yJ0_isLatin1_aae02 (.code yJ0_isLatin1_aae02 cJ0_isLatin1_aae02 1 (some .boolean)) 0 0 0 0 [] [.ref (ak.1 1)] (fun (w : va_W) (r : Option Value) => (w = [] ∧ r = some (.int 1))) jj_noX := by
  refine jj_start hl (by decide) jw_1aa7753999 (jj_le rfl) ?_
  intro p e s m args below meth c A hargs hA C hex hmn
  refine jj_gcs C jw_478bb18c33 dJ0_isLatin1_aae02_0 ?_
  refine jj_if_eqF (tgt := 17) C dJ0_isLatin1_aae02_3 (by decide) (by decide) ?_
  refine jj_aload_n C dJ0_isLatin1_aae02_6 rfl ?_
  refine jj_scod (k := 1) C (by decide) jw_7816d6e515 dJ0_isLatin1_aae02_7 ?_
  refine jj_if_neF (tgt := 17) C dJ0_isLatin1_aae02_10 (by decide) (by decide) ?_
  refine jj_iconst (v := 1) C dJ0_isLatin1_aae02_13 (by decide) ?_
  refine jj_goto (tgt := 18) C dJ0_isLatin1_aae02_14 (by decide) ?_
  exact jj_zret C rfl ⟨rfl, rfl⟩ dJ0_isLatin1_aae02_18 (jj_le rfl) (jj_le rfl)

set_option maxHeartbeats 4000000 in
set_option maxRecDepth 100000 in
theorem ct_J3_checkIndex_8e157_9 {l : Launch} (hl : l.stackTraces = false) (D : va_G) (cA : Nat → ClassId) (ak : (Nat → Nat) × (Nat → Nat)) (h0 : Nat) : jj_M l D cA ak yJ3_checkIndex_8e157 (.code yJ3_checkIndex_8e157 cJ3_checkIndex_8e157 3 (some .int)) 0 0 0 0 [] [.int 0, .int 5, .ref h0] (fun (w : va_W) (r : Option Value) => (w = [] ∧ r = some (.int 0))) jj_noX := by
  refine jj_start hl (by decide) jw_da9869a695 (jj_le rfl) ?_
  intro p e s m args below meth c A hargs hA C hex hmn
  refine jj_iload_n C dJ3_checkIndex_8e157_0 rfl ?_
  refine jj_if_ltF (tgt := 9) C dJ3_checkIndex_8e157_1 (by decide) (by decide) ?_
  refine jj_iload_n C dJ3_checkIndex_8e157_4 rfl ?_
  refine jj_iload_n C dJ3_checkIndex_8e157_5 rfl ?_
  refine jj_icmp_ltT (tgt := 16) C dJ3_checkIndex_8e157_6 (by decide) (by decide) ?_
  refine jj_iload_n C dJ3_checkIndex_8e157_16 rfl ?_
  exact jj_iret C ⟨rfl, rfl⟩ dJ3_checkIndex_8e157_17 (jj_le rfl) (jj_le rfl)

set_option maxHeartbeats 4000000 in
set_option maxRecDepth 100000 in
theorem ct_J3_checkIndex_8e157_10 {l : Launch} (hl : l.stackTraces = false) (D : va_G) (cA : Nat → ClassId) (ak : (Nat → Nat) × (Nat → Nat)) : jj_M l D cA ak yJ3_checkIndex_8e157 (.code yJ3_checkIndex_8e157 cJ3_checkIndex_8e157 3 (some .int)) 0 0 0 0 [] [.int 0, .int 5, .null] (fun (w : va_W) (r : Option Value) => (w = [] ∧ r = some (.int 0))) jj_noX := by
  refine jj_start hl (by decide) jw_da9869a695 (jj_le rfl) ?_
  intro p e s m args below meth c A hargs hA C hex hmn
  refine jj_iload_n C dJ3_checkIndex_8e157_0 rfl ?_
  refine jj_if_ltF (tgt := 9) C dJ3_checkIndex_8e157_1 (by decide) (by decide) ?_
  refine jj_iload_n C dJ3_checkIndex_8e157_4 rfl ?_
  refine jj_iload_n C dJ3_checkIndex_8e157_5 rfl ?_
  refine jj_icmp_ltT (tgt := 16) C dJ3_checkIndex_8e157_6 (by decide) (by decide) ?_
  refine jj_iload_n C dJ3_checkIndex_8e157_16 rfl ?_
  exact jj_iret C ⟨rfl, rfl⟩ dJ3_checkIndex_8e157_17 (jj_le rfl) (jj_le rfl)

set_option maxHeartbeats 4000000 in
set_option maxRecDepth 100000 in
theorem ct_J0_checkIndex_df160_5 {l : Launch} (hl : l.stackTraces = false) (D : va_G) (cA : Nat → ClassId) (ak : (Nat → Nat) × (Nat → Nat)) : jj_M l D cA ak yJ0_checkIndex_df160 (.code yJ0_checkIndex_df160 cJ0_checkIndex_df160 2 none) 1 22 0 0 [] [.int 0, .int 5] (fun (w : va_W) (r : Option Value) => (w = [] ∧ r = none)) jj_noX := by
  refine jj_start hl (by decide) jw_73f64df4e3 (jj_le rfl) ?_
  intro p e s m args below meth c A hargs hA C hex hmn
  refine jj_iload_n C dJ0_checkIndex_df160_0 rfl ?_
  refine jj_iload_n C dJ0_checkIndex_df160_1 rfl ?_
  refine jj_gfm C jw_040150fc39 dJ0_checkIndex_df160_2 (fun t_1 => ?_) ?_
  · refine jq_callS (rest := []) C (ct_J3_checkIndex_8e157_9 hl D cA ak t_1) [] [] rfl rfl (by decide) (by decide) (by decide) jw_a7a8b385a1 jw_8d35bed6b0 jw_2c7dffdd00 jw_da9869a695 jn_J3_checkIndex_8e157 rfl (jj_le rfl) (jj_le rfl) (jj_le rfl) (jj_le rfl) (jj_le rfl) dJ0_checkIndex_df160_5 rfl (fun _ _ hX => hX.elim) (fun w1 r O_3 => ?_)
    obtain ⟨rfl, rfl⟩ := O_3
    refine jj_apd rfl ?_
    refine jj_pop C dJ0_checkIndex_df160_8 rfl ?_
    exact jj_vret C ⟨rfl, rfl⟩ dJ0_checkIndex_df160_9 (jj_le rfl) (jj_le rfl)
  · refine jq_callS (rest := []) C (ct_J3_checkIndex_8e157_10 hl D cA ak) [] [] rfl rfl (by decide) (by decide) (by decide) jw_a7a8b385a1 jw_8d35bed6b0 jw_2c7dffdd00 jw_da9869a695 jn_J3_checkIndex_8e157 rfl (jj_le rfl) (jj_le rfl) (jj_le rfl) (jj_le rfl) (jj_le rfl) dJ0_checkIndex_df160_5 rfl (fun _ _ hX => hX.elim) (fun w1 r O_5 => ?_)
    obtain ⟨rfl, rfl⟩ := O_5
    refine jj_apd rfl ?_
    refine jj_pop C dJ0_checkIndex_df160_8 rfl ?_
    exact jj_vret C ⟨rfl, rfl⟩ dJ0_checkIndex_df160_9 (jj_le rfl) (jj_le rfl)

set_option maxHeartbeats 4000000 in
set_option maxRecDepth 100000 in
theorem ct_J1_charAt_3b067_5 {l : Launch} (hl : l.stackTraces = false) (D : va_G) (cA : Nat → ClassId) (ak : (Nat → Nat) × (Nat → Nat)) : jj_M l D cA ak yJ1_charAt_3b067 (.code yJ1_charAt_3b067 cJ1_charAt_3b067 2 (some .char)) 2 43 0 0 [] [.ref (ak.2 1), .int 0] (fun (w : va_W) (r : Option Value) => (w = [] ∧ r = some (.int 101))) jj_noX := by
  refine jj_start hl (by decide) jw_6996a9eac3 (jj_le rfl) ?_
  intro p e s m args below meth c A hargs hA C hex hmn
  refine jj_iload_n C dJ1_charAt_3b067_0 rfl ?_
  refine jj_aload_n C dJ1_charAt_3b067_1 rfl ?_
  refine jj_slen (k := 1) (v := 5) C (by decide) (by decide) dJ1_charAt_3b067_2 ?_
  refine jq_callS (rest := []) C (ct_J0_checkIndex_df160_5 hl D cA ak) [] [] rfl rfl (by decide) (by decide) (by decide) jw_763fabfbf2 jw_9aa540e9dd jw_4ea6285965 jw_73f64df4e3 jn_J0_checkIndex_df160 rfl (jj_le rfl) (jj_le rfl) (jj_le rfl) (jj_le rfl) (jj_le rfl) dJ1_charAt_3b067_3 rfl (fun _ _ hX => hX.elim) (fun w1 r O_2 => ?_)
  obtain ⟨rfl, rfl⟩ := O_2
  refine jj_apd rfl ?_
  refine jj_aload_n C dJ1_charAt_3b067_6 rfl ?_
  refine jj_iload_n C dJ1_charAt_3b067_7 rfl ?_
  refine jj_sbyt (k := 1) (v := 101) C (by decide) (vp_in_iff.mpr (by decide)) (by decide) dJ1_charAt_3b067_8 ?_
  refine jj_sipush (v := 255) C dJ1_charAt_3b067_9 (by decide) ?_
  refine jj_iand (v := 101) C dJ1_charAt_3b067_12 (by decide) ?_
  refine jj_i2c (v := 101) C dJ1_charAt_3b067_13 (by decide) ?_
  exact jj_zret C rfl ⟨rfl, rfl⟩ dJ1_charAt_3b067_14 (jj_le rfl) (jj_le rfl)

set_option maxHeartbeats 4000000 in
set_option maxRecDepth 100000 in
theorem ct_J0_charAt_5068e_5 {l : Launch} (hl : l.stackTraces = false) (D : va_G) (cA : Nat → ClassId) (ak : (Nat → Nat) × (Nat → Nat)) : jj_M l D cA ak yJ0_charAt_5068e (.code yJ0_charAt_5068e cJ0_charAt_5068e 2 (some .char)) 3 64 0 0 [] [.ref (ak.1 1), .int 0] (fun (w : va_W) (r : Option Value) => (w = [] ∧ r = some (.int 101))) jj_noX := by
  refine jj_start hl (by decide) jw_391c0f56bd (jj_le rfl) ?_
  intro p e s m args below meth c A hargs hA C hex hmn
  refine jj_aload_n C dJ0_charAt_5068e_0 rfl ?_
  refine jq_callVs (rest := []) C (ct_J0_isLatin1_aae02_2 hl D cA ak) [] [] rfl rfl (by decide) (by decide) (by decide) 1 (by decide) rfl jw_5ca960aa2e jw_b7ba7c03ae jw_c4fe6f1e08 jw_4ea6285965 jw_1aa7753999 jn_J0_isLatin1_aae02 rfl (jj_le rfl) (jj_le rfl) (jj_le rfl) (jj_le rfl) (jj_le rfl) dJ0_charAt_5068e_1 rfl (fun _ _ hX => hX.elim) (fun w1 r O_2 => ?_)
  obtain ⟨rfl, rfl⟩ := O_2
  refine jj_apd rfl ?_
  refine jj_if_eqF (tgt := 16) C dJ0_charAt_5068e_4 (by decide) (by decide) ?_
  refine jj_aload_n C dJ0_charAt_5068e_7 rfl ?_
  refine jj_sval (k := 1) C (by decide) jw_90a506b1c3 dJ0_charAt_5068e_8 ?_
  refine jj_iload_n C dJ0_charAt_5068e_11 rfl ?_
  refine jq_callS (rest := []) C (ct_J1_charAt_3b067_5 hl D cA ak) [] [] rfl rfl (by decide) (by decide) (by decide) jw_7e2463d496 jw_530d7ac64c jw_2a3a2ce6ce jw_6996a9eac3 jn_J1_charAt_3b067 rfl (jj_le rfl) (jj_le rfl) (jj_le rfl) (jj_le rfl) (jj_le rfl) dJ0_charAt_5068e_12 rfl (fun _ _ hX => hX.elim) (fun w1 r O_4 => ?_)
  obtain ⟨rfl, rfl⟩ := O_4
  refine jj_apd rfl ?_
  exact jj_zret C rfl ⟨rfl, rfl⟩ dJ0_charAt_5068e_15 (jj_le rfl) (jj_le rfl)

set_option maxHeartbeats 4000000 in
set_option maxRecDepth 100000 in
theorem ct_J3_checkIndex_8e157_11 {l : Launch} (hl : l.stackTraces = false) (D : va_G) (cA : Nat → ClassId) (ak : (Nat → Nat) × (Nat → Nat)) (h0 : Nat) : jj_M l D cA ak yJ3_checkIndex_8e157 (.code yJ3_checkIndex_8e157 cJ3_checkIndex_8e157 3 (some .int)) 0 0 0 0 [] [.int 1, .int 5, .ref h0] (fun (w : va_W) (r : Option Value) => (w = [] ∧ r = some (.int 1))) jj_noX := by
  refine jj_start hl (by decide) jw_da9869a695 (jj_le rfl) ?_
  intro p e s m args below meth c A hargs hA C hex hmn
  refine jj_iload_n C dJ3_checkIndex_8e157_0 rfl ?_
  refine jj_if_ltF (tgt := 9) C dJ3_checkIndex_8e157_1 (by decide) (by decide) ?_
  refine jj_iload_n C dJ3_checkIndex_8e157_4 rfl ?_
  refine jj_iload_n C dJ3_checkIndex_8e157_5 rfl ?_
  refine jj_icmp_ltT (tgt := 16) C dJ3_checkIndex_8e157_6 (by decide) (by decide) ?_
  refine jj_iload_n C dJ3_checkIndex_8e157_16 rfl ?_
  exact jj_iret C ⟨rfl, rfl⟩ dJ3_checkIndex_8e157_17 (jj_le rfl) (jj_le rfl)

set_option maxHeartbeats 4000000 in
set_option maxRecDepth 100000 in
theorem ct_J3_checkIndex_8e157_12 {l : Launch} (hl : l.stackTraces = false) (D : va_G) (cA : Nat → ClassId) (ak : (Nat → Nat) × (Nat → Nat)) : jj_M l D cA ak yJ3_checkIndex_8e157 (.code yJ3_checkIndex_8e157 cJ3_checkIndex_8e157 3 (some .int)) 0 0 0 0 [] [.int 1, .int 5, .null] (fun (w : va_W) (r : Option Value) => (w = [] ∧ r = some (.int 1))) jj_noX := by
  refine jj_start hl (by decide) jw_da9869a695 (jj_le rfl) ?_
  intro p e s m args below meth c A hargs hA C hex hmn
  refine jj_iload_n C dJ3_checkIndex_8e157_0 rfl ?_
  refine jj_if_ltF (tgt := 9) C dJ3_checkIndex_8e157_1 (by decide) (by decide) ?_
  refine jj_iload_n C dJ3_checkIndex_8e157_4 rfl ?_
  refine jj_iload_n C dJ3_checkIndex_8e157_5 rfl ?_
  refine jj_icmp_ltT (tgt := 16) C dJ3_checkIndex_8e157_6 (by decide) (by decide) ?_
  refine jj_iload_n C dJ3_checkIndex_8e157_16 rfl ?_
  exact jj_iret C ⟨rfl, rfl⟩ dJ3_checkIndex_8e157_17 (jj_le rfl) (jj_le rfl)

set_option maxHeartbeats 4000000 in
set_option maxRecDepth 100000 in
theorem ct_J0_checkIndex_df160_6 {l : Launch} (hl : l.stackTraces = false) (D : va_G) (cA : Nat → ClassId) (ak : (Nat → Nat) × (Nat → Nat)) : jj_M l D cA ak yJ0_checkIndex_df160 (.code yJ0_checkIndex_df160 cJ0_checkIndex_df160 2 none) 1 22 0 0 [] [.int 1, .int 5] (fun (w : va_W) (r : Option Value) => (w = [] ∧ r = none)) jj_noX := by
  refine jj_start hl (by decide) jw_73f64df4e3 (jj_le rfl) ?_
  intro p e s m args below meth c A hargs hA C hex hmn
  refine jj_iload_n C dJ0_checkIndex_df160_0 rfl ?_
  refine jj_iload_n C dJ0_checkIndex_df160_1 rfl ?_
  refine jj_gfm C jw_040150fc39 dJ0_checkIndex_df160_2 (fun t_1 => ?_) ?_
  · refine jq_callS (rest := []) C (ct_J3_checkIndex_8e157_11 hl D cA ak t_1) [] [] rfl rfl (by decide) (by decide) (by decide) jw_a7a8b385a1 jw_8d35bed6b0 jw_2c7dffdd00 jw_da9869a695 jn_J3_checkIndex_8e157 rfl (jj_le rfl) (jj_le rfl) (jj_le rfl) (jj_le rfl) (jj_le rfl) dJ0_checkIndex_df160_5 rfl (fun _ _ hX => hX.elim) (fun w1 r O_3 => ?_)
    obtain ⟨rfl, rfl⟩ := O_3
    refine jj_apd rfl ?_
    refine jj_pop C dJ0_checkIndex_df160_8 rfl ?_
    exact jj_vret C ⟨rfl, rfl⟩ dJ0_checkIndex_df160_9 (jj_le rfl) (jj_le rfl)
  · refine jq_callS (rest := []) C (ct_J3_checkIndex_8e157_12 hl D cA ak) [] [] rfl rfl (by decide) (by decide) (by decide) jw_a7a8b385a1 jw_8d35bed6b0 jw_2c7dffdd00 jw_da9869a695 jn_J3_checkIndex_8e157 rfl (jj_le rfl) (jj_le rfl) (jj_le rfl) (jj_le rfl) (jj_le rfl) dJ0_checkIndex_df160_5 rfl (fun _ _ hX => hX.elim) (fun w1 r O_5 => ?_)
    obtain ⟨rfl, rfl⟩ := O_5
    refine jj_apd rfl ?_
    refine jj_pop C dJ0_checkIndex_df160_8 rfl ?_
    exact jj_vret C ⟨rfl, rfl⟩ dJ0_checkIndex_df160_9 (jj_le rfl) (jj_le rfl)

set_option maxHeartbeats 4000000 in
set_option maxRecDepth 100000 in
theorem ct_J1_charAt_3b067_6 {l : Launch} (hl : l.stackTraces = false) (D : va_G) (cA : Nat → ClassId) (ak : (Nat → Nat) × (Nat → Nat)) : jj_M l D cA ak yJ1_charAt_3b067 (.code yJ1_charAt_3b067 cJ1_charAt_3b067 2 (some .char)) 2 43 0 0 [] [.ref (ak.2 1), .int 1] (fun (w : va_W) (r : Option Value) => (w = [] ∧ r = some (.int 113))) jj_noX := by
  refine jj_start hl (by decide) jw_6996a9eac3 (jj_le rfl) ?_
  intro p e s m args below meth c A hargs hA C hex hmn
  refine jj_iload_n C dJ1_charAt_3b067_0 rfl ?_
  refine jj_aload_n C dJ1_charAt_3b067_1 rfl ?_
  refine jj_slen (k := 1) (v := 5) C (by decide) (by decide) dJ1_charAt_3b067_2 ?_
  refine jq_callS (rest := []) C (ct_J0_checkIndex_df160_6 hl D cA ak) [] [] rfl rfl (by decide) (by decide) (by decide) jw_763fabfbf2 jw_9aa540e9dd jw_4ea6285965 jw_73f64df4e3 jn_J0_checkIndex_df160 rfl (jj_le rfl) (jj_le rfl) (jj_le rfl) (jj_le rfl) (jj_le rfl) dJ1_charAt_3b067_3 rfl (fun _ _ hX => hX.elim) (fun w1 r O_2 => ?_)
  obtain ⟨rfl, rfl⟩ := O_2
  refine jj_apd rfl ?_
  refine jj_aload_n C dJ1_charAt_3b067_6 rfl ?_
  refine jj_iload_n C dJ1_charAt_3b067_7 rfl ?_
  refine jj_sbyt (k := 1) (v := 113) C (by decide) (vp_in_iff.mpr (by decide)) (by decide) dJ1_charAt_3b067_8 ?_
  refine jj_sipush (v := 255) C dJ1_charAt_3b067_9 (by decide) ?_
  refine jj_iand (v := 113) C dJ1_charAt_3b067_12 (by decide) ?_
  refine jj_i2c (v := 113) C dJ1_charAt_3b067_13 (by decide) ?_
  exact jj_zret C rfl ⟨rfl, rfl⟩ dJ1_charAt_3b067_14 (jj_le rfl) (jj_le rfl)

set_option maxHeartbeats 4000000 in
set_option maxRecDepth 100000 in
theorem ct_J0_charAt_5068e_6 {l : Launch} (hl : l.stackTraces = false) (D : va_G) (cA : Nat → ClassId) (ak : (Nat → Nat) × (Nat → Nat)) : jj_M l D cA ak yJ0_charAt_5068e (.code yJ0_charAt_5068e cJ0_charAt_5068e 2 (some .char)) 3 64 0 0 [] [.ref (ak.1 1), .int 1] (fun (w : va_W) (r : Option Value) => (w = [] ∧ r = some (.int 113))) jj_noX := by
  refine jj_start hl (by decide) jw_391c0f56bd (jj_le rfl) ?_
  intro p e s m args below meth c A hargs hA C hex hmn
  refine jj_aload_n C dJ0_charAt_5068e_0 rfl ?_
  refine jq_callVs (rest := []) C (ct_J0_isLatin1_aae02_2 hl D cA ak) [] [] rfl rfl (by decide) (by decide) (by decide) 1 (by decide) rfl jw_5ca960aa2e jw_b7ba7c03ae jw_c4fe6f1e08 jw_4ea6285965 jw_1aa7753999 jn_J0_isLatin1_aae02 rfl (jj_le rfl) (jj_le rfl) (jj_le rfl) (jj_le rfl) (jj_le rfl) dJ0_charAt_5068e_1 rfl (fun _ _ hX => hX.elim) (fun w1 r O_2 => ?_)
  obtain ⟨rfl, rfl⟩ := O_2
  refine jj_apd rfl ?_
  refine jj_if_eqF (tgt := 16) C dJ0_charAt_5068e_4 (by decide) (by decide) ?_
  refine jj_aload_n C dJ0_charAt_5068e_7 rfl ?_
  refine jj_sval (k := 1) C (by decide) jw_90a506b1c3 dJ0_charAt_5068e_8 ?_
  refine jj_iload_n C dJ0_charAt_5068e_11 rfl ?_
  refine jq_callS (rest := []) C (ct_J1_charAt_3b067_6 hl D cA ak) [] [] rfl rfl (by decide) (by decide) (by decide) jw_7e2463d496 jw_530d7ac64c jw_2a3a2ce6ce jw_6996a9eac3 jn_J1_charAt_3b067 rfl (jj_le rfl) (jj_le rfl) (jj_le rfl) (jj_le rfl) (jj_le rfl) dJ0_charAt_5068e_12 rfl (fun _ _ hX => hX.elim) (fun w1 r O_4 => ?_)
  obtain ⟨rfl, rfl⟩ := O_4
  refine jj_apd rfl ?_
  exact jj_zret C rfl ⟨rfl, rfl⟩ dJ0_charAt_5068e_15 (jj_le rfl) (jj_le rfl)

set_option maxHeartbeats 4000000 in
set_option maxRecDepth 100000 in
theorem ct_J3_checkIndex_8e157_13 {l : Launch} (hl : l.stackTraces = false) (D : va_G) (cA : Nat → ClassId) (ak : (Nat → Nat) × (Nat → Nat)) (h0 : Nat) : jj_M l D cA ak yJ3_checkIndex_8e157 (.code yJ3_checkIndex_8e157 cJ3_checkIndex_8e157 3 (some .int)) 0 0 0 0 [] [.int 2, .int 5, .ref h0] (fun (w : va_W) (r : Option Value) => (w = [] ∧ r = some (.int 2))) jj_noX := by
  refine jj_start hl (by decide) jw_da9869a695 (jj_le rfl) ?_
  intro p e s m args below meth c A hargs hA C hex hmn
  refine jj_iload_n C dJ3_checkIndex_8e157_0 rfl ?_
  refine jj_if_ltF (tgt := 9) C dJ3_checkIndex_8e157_1 (by decide) (by decide) ?_
  refine jj_iload_n C dJ3_checkIndex_8e157_4 rfl ?_
  refine jj_iload_n C dJ3_checkIndex_8e157_5 rfl ?_
  refine jj_icmp_ltT (tgt := 16) C dJ3_checkIndex_8e157_6 (by decide) (by decide) ?_
  refine jj_iload_n C dJ3_checkIndex_8e157_16 rfl ?_
  exact jj_iret C ⟨rfl, rfl⟩ dJ3_checkIndex_8e157_17 (jj_le rfl) (jj_le rfl)

set_option maxHeartbeats 4000000 in
set_option maxRecDepth 100000 in
theorem ct_J3_checkIndex_8e157_14 {l : Launch} (hl : l.stackTraces = false) (D : va_G) (cA : Nat → ClassId) (ak : (Nat → Nat) × (Nat → Nat)) : jj_M l D cA ak yJ3_checkIndex_8e157 (.code yJ3_checkIndex_8e157 cJ3_checkIndex_8e157 3 (some .int)) 0 0 0 0 [] [.int 2, .int 5, .null] (fun (w : va_W) (r : Option Value) => (w = [] ∧ r = some (.int 2))) jj_noX := by
  refine jj_start hl (by decide) jw_da9869a695 (jj_le rfl) ?_
  intro p e s m args below meth c A hargs hA C hex hmn
  refine jj_iload_n C dJ3_checkIndex_8e157_0 rfl ?_
  refine jj_if_ltF (tgt := 9) C dJ3_checkIndex_8e157_1 (by decide) (by decide) ?_
  refine jj_iload_n C dJ3_checkIndex_8e157_4 rfl ?_
  refine jj_iload_n C dJ3_checkIndex_8e157_5 rfl ?_
  refine jj_icmp_ltT (tgt := 16) C dJ3_checkIndex_8e157_6 (by decide) (by decide) ?_
  refine jj_iload_n C dJ3_checkIndex_8e157_16 rfl ?_
  exact jj_iret C ⟨rfl, rfl⟩ dJ3_checkIndex_8e157_17 (jj_le rfl) (jj_le rfl)

set_option maxHeartbeats 4000000 in
set_option maxRecDepth 100000 in
theorem ct_J0_checkIndex_df160_7 {l : Launch} (hl : l.stackTraces = false) (D : va_G) (cA : Nat → ClassId) (ak : (Nat → Nat) × (Nat → Nat)) : jj_M l D cA ak yJ0_checkIndex_df160 (.code yJ0_checkIndex_df160 cJ0_checkIndex_df160 2 none) 1 22 0 0 [] [.int 2, .int 5] (fun (w : va_W) (r : Option Value) => (w = [] ∧ r = none)) jj_noX := by
  refine jj_start hl (by decide) jw_73f64df4e3 (jj_le rfl) ?_
  intro p e s m args below meth c A hargs hA C hex hmn
  refine jj_iload_n C dJ0_checkIndex_df160_0 rfl ?_
  refine jj_iload_n C dJ0_checkIndex_df160_1 rfl ?_
  refine jj_gfm C jw_040150fc39 dJ0_checkIndex_df160_2 (fun t_1 => ?_) ?_
  · refine jq_callS (rest := []) C (ct_J3_checkIndex_8e157_13 hl D cA ak t_1) [] [] rfl rfl (by decide) (by decide) (by decide) jw_a7a8b385a1 jw_8d35bed6b0 jw_2c7dffdd00 jw_da9869a695 jn_J3_checkIndex_8e157 rfl (jj_le rfl) (jj_le rfl) (jj_le rfl) (jj_le rfl) (jj_le rfl) dJ0_checkIndex_df160_5 rfl (fun _ _ hX => hX.elim) (fun w1 r O_3 => ?_)
    obtain ⟨rfl, rfl⟩ := O_3
    refine jj_apd rfl ?_
    refine jj_pop C dJ0_checkIndex_df160_8 rfl ?_
    exact jj_vret C ⟨rfl, rfl⟩ dJ0_checkIndex_df160_9 (jj_le rfl) (jj_le rfl)
  · refine jq_callS (rest := []) C (ct_J3_checkIndex_8e157_14 hl D cA ak) [] [] rfl rfl (by decide) (by decide) (by decide) jw_a7a8b385a1 jw_8d35bed6b0 jw_2c7dffdd00 jw_da9869a695 jn_J3_checkIndex_8e157 rfl (jj_le rfl) (jj_le rfl) (jj_le rfl) (jj_le rfl) (jj_le rfl) dJ0_checkIndex_df160_5 rfl (fun _ _ hX => hX.elim) (fun w1 r O_5 => ?_)
    obtain ⟨rfl, rfl⟩ := O_5
    refine jj_apd rfl ?_
    refine jj_pop C dJ0_checkIndex_df160_8 rfl ?_
    exact jj_vret C ⟨rfl, rfl⟩ dJ0_checkIndex_df160_9 (jj_le rfl) (jj_le rfl)

set_option maxHeartbeats 4000000 in
set_option maxRecDepth 100000 in
theorem ct_J1_charAt_3b067_7 {l : Launch} (hl : l.stackTraces = false) (D : va_G) (cA : Nat → ClassId) (ak : (Nat → Nat) × (Nat → Nat)) : jj_M l D cA ak yJ1_charAt_3b067 (.code yJ1_charAt_3b067 cJ1_charAt_3b067 2 (some .char)) 2 43 0 0 [] [.ref (ak.2 1), .int 2] (fun (w : va_W) (r : Option Value) => (w = [] ∧ r = some (.int 117))) jj_noX := by
  refine jj_start hl (by decide) jw_6996a9eac3 (jj_le rfl) ?_
  intro p e s m args below meth c A hargs hA C hex hmn
  refine jj_iload_n C dJ1_charAt_3b067_0 rfl ?_
  refine jj_aload_n C dJ1_charAt_3b067_1 rfl ?_
  refine jj_slen (k := 1) (v := 5) C (by decide) (by decide) dJ1_charAt_3b067_2 ?_
  refine jq_callS (rest := []) C (ct_J0_checkIndex_df160_7 hl D cA ak) [] [] rfl rfl (by decide) (by decide) (by decide) jw_763fabfbf2 jw_9aa540e9dd jw_4ea6285965 jw_73f64df4e3 jn_J0_checkIndex_df160 rfl (jj_le rfl) (jj_le rfl) (jj_le rfl) (jj_le rfl) (jj_le rfl) dJ1_charAt_3b067_3 rfl (fun _ _ hX => hX.elim) (fun w1 r O_2 => ?_)
  obtain ⟨rfl, rfl⟩ := O_2
  refine jj_apd rfl ?_
  refine jj_aload_n C dJ1_charAt_3b067_6 rfl ?_
  refine jj_iload_n C dJ1_charAt_3b067_7 rfl ?_
  refine jj_sbyt (k := 1) (v := 117) C (by decide) (vp_in_iff.mpr (by decide)) (by decide) dJ1_charAt_3b067_8 ?_
  refine jj_sipush (v := 255) C dJ1_charAt_3b067_9 (by decide) ?_
  refine jj_iand (v := 117) C dJ1_charAt_3b067_12 (by decide) ?_
  refine jj_i2c (v := 117) C dJ1_charAt_3b067_13 (by decide) ?_
  exact jj_zret C rfl ⟨rfl, rfl⟩ dJ1_charAt_3b067_14 (jj_le rfl) (jj_le rfl)

set_option maxHeartbeats 4000000 in
set_option maxRecDepth 100000 in
theorem ct_J0_charAt_5068e_7 {l : Launch} (hl : l.stackTraces = false) (D : va_G) (cA : Nat → ClassId) (ak : (Nat → Nat) × (Nat → Nat)) : jj_M l D cA ak yJ0_charAt_5068e (.code yJ0_charAt_5068e cJ0_charAt_5068e 2 (some .char)) 3 64 0 0 [] [.ref (ak.1 1), .int 2] (fun (w : va_W) (r : Option Value) => (w = [] ∧ r = some (.int 117))) jj_noX := by
  refine jj_start hl (by decide) jw_391c0f56bd (jj_le rfl) ?_
  intro p e s m args below meth c A hargs hA C hex hmn
  refine jj_aload_n C dJ0_charAt_5068e_0 rfl ?_
  refine jq_callVs (rest := []) C (ct_J0_isLatin1_aae02_2 hl D cA ak) [] [] rfl rfl (by decide) (by decide) (by decide) 1 (by decide) rfl jw_5ca960aa2e jw_b7ba7c03ae jw_c4fe6f1e08 jw_4ea6285965 jw_1aa7753999 jn_J0_isLatin1_aae02 rfl (jj_le rfl) (jj_le rfl) (jj_le rfl) (jj_le rfl) (jj_le rfl) dJ0_charAt_5068e_1 rfl (fun _ _ hX => hX.elim) (fun w1 r O_2 => ?_)
  obtain ⟨rfl, rfl⟩ := O_2
  refine jj_apd rfl ?_
  refine jj_if_eqF (tgt := 16) C dJ0_charAt_5068e_4 (by decide) (by decide) ?_
  refine jj_aload_n C dJ0_charAt_5068e_7 rfl ?_
  refine jj_sval (k := 1) C (by decide) jw_90a506b1c3 dJ0_charAt_5068e_8 ?_
  refine jj_iload_n C dJ0_charAt_5068e_11 rfl ?_
  refine jq_callS (rest := []) C (ct_J1_charAt_3b067_7 hl D cA ak) [] [] rfl rfl (by decide) (by decide) (by decide) jw_7e2463d496 jw_530d7ac64c jw_2a3a2ce6ce jw_6996a9eac3 jn_J1_charAt_3b067 rfl (jj_le rfl) (jj_le rfl) (jj_le rfl) (jj_le rfl) (jj_le rfl) dJ0_charAt_5068e_12 rfl (fun _ _ hX => hX.elim) (fun w1 r O_4 => ?_)
  obtain ⟨rfl, rfl⟩ := O_4
  refine jj_apd rfl ?_
  exact jj_zret C rfl ⟨rfl, rfl⟩ dJ0_charAt_5068e_15 (jj_le rfl) (jj_le rfl)

set_option maxHeartbeats 4000000 in
set_option maxRecDepth 100000 in
theorem ct_J3_checkIndex_8e157_15 {l : Launch} (hl : l.stackTraces = false) (D : va_G) (cA : Nat → ClassId) (ak : (Nat → Nat) × (Nat → Nat)) (h0 : Nat) : jj_M l D cA ak yJ3_checkIndex_8e157 (.code yJ3_checkIndex_8e157 cJ3_checkIndex_8e157 3 (some .int)) 0 0 0 0 [] [.int 3, .int 5, .ref h0] (fun (w : va_W) (r : Option Value) => (w = [] ∧ r = some (.int 3))) jj_noX := by
  refine jj_start hl (by decide) jw_da9869a695 (jj_le rfl) ?_
  intro p e s m args below meth c A hargs hA C hex hmn
  refine jj_iload_n C dJ3_checkIndex_8e157_0 rfl ?_
  refine jj_if_ltF (tgt := 9) C dJ3_checkIndex_8e157_1 (by decide) (by decide) ?_
  refine jj_iload_n C dJ3_checkIndex_8e157_4 rfl ?_
  refine jj_iload_n C dJ3_checkIndex_8e157_5 rfl ?_
  refine jj_icmp_ltT (tgt := 16) C dJ3_checkIndex_8e157_6 (by decide) (by decide) ?_
  refine jj_iload_n C dJ3_checkIndex_8e157_16 rfl ?_
  exact jj_iret C ⟨rfl, rfl⟩ dJ3_checkIndex_8e157_17 (jj_le rfl) (jj_le rfl)

set_option maxHeartbeats 4000000 in
set_option maxRecDepth 100000 in
theorem ct_J3_checkIndex_8e157_16 {l : Launch} (hl : l.stackTraces = false) (D : va_G) (cA : Nat → ClassId) (ak : (Nat → Nat) × (Nat → Nat)) : jj_M l D cA ak yJ3_checkIndex_8e157 (.code yJ3_checkIndex_8e157 cJ3_checkIndex_8e157 3 (some .int)) 0 0 0 0 [] [.int 3, .int 5, .null] (fun (w : va_W) (r : Option Value) => (w = [] ∧ r = some (.int 3))) jj_noX := by
  refine jj_start hl (by decide) jw_da9869a695 (jj_le rfl) ?_
  intro p e s m args below meth c A hargs hA C hex hmn
  refine jj_iload_n C dJ3_checkIndex_8e157_0 rfl ?_
  refine jj_if_ltF (tgt := 9) C dJ3_checkIndex_8e157_1 (by decide) (by decide) ?_
  refine jj_iload_n C dJ3_checkIndex_8e157_4 rfl ?_
  refine jj_iload_n C dJ3_checkIndex_8e157_5 rfl ?_
  refine jj_icmp_ltT (tgt := 16) C dJ3_checkIndex_8e157_6 (by decide) (by decide) ?_
  refine jj_iload_n C dJ3_checkIndex_8e157_16 rfl ?_
  exact jj_iret C ⟨rfl, rfl⟩ dJ3_checkIndex_8e157_17 (jj_le rfl) (jj_le rfl)

set_option maxHeartbeats 4000000 in
set_option maxRecDepth 100000 in
theorem ct_J0_checkIndex_df160_8 {l : Launch} (hl : l.stackTraces = false) (D : va_G) (cA : Nat → ClassId) (ak : (Nat → Nat) × (Nat → Nat)) : jj_M l D cA ak yJ0_checkIndex_df160 (.code yJ0_checkIndex_df160 cJ0_checkIndex_df160 2 none) 1 22 0 0 [] [.int 3, .int 5] (fun (w : va_W) (r : Option Value) => (w = [] ∧ r = none)) jj_noX := by
  refine jj_start hl (by decide) jw_73f64df4e3 (jj_le rfl) ?_
  intro p e s m args below meth c A hargs hA C hex hmn
  refine jj_iload_n C dJ0_checkIndex_df160_0 rfl ?_
  refine jj_iload_n C dJ0_checkIndex_df160_1 rfl ?_
  refine jj_gfm C jw_040150fc39 dJ0_checkIndex_df160_2 (fun t_1 => ?_) ?_
  · refine jq_callS (rest := []) C (ct_J3_checkIndex_8e157_15 hl D cA ak t_1) [] [] rfl rfl (by decide) (by decide) (by decide) jw_a7a8b385a1 jw_8d35bed6b0 jw_2c7dffdd00 jw_da9869a695 jn_J3_checkIndex_8e157 rfl (jj_le rfl) (jj_le rfl) (jj_le rfl) (jj_le rfl) (jj_le rfl) dJ0_checkIndex_df160_5 rfl (fun _ _ hX => hX.elim) (fun w1 r O_3 => ?_)
    obtain ⟨rfl, rfl⟩ := O_3
    refine jj_apd rfl ?_
    refine jj_pop C dJ0_checkIndex_df160_8 rfl ?_
    exact jj_vret C ⟨rfl, rfl⟩ dJ0_checkIndex_df160_9 (jj_le rfl) (jj_le rfl)
  · refine jq_callS (rest := []) C (ct_J3_checkIndex_8e157_16 hl D cA ak) [] [] rfl rfl (by decide) (by decide) (by decide) jw_a7a8b385a1 jw_8d35bed6b0 jw_2c7dffdd00 jw_da9869a695 jn_J3_checkIndex_8e157 rfl (jj_le rfl) (jj_le rfl) (jj_le rfl) (jj_le rfl) (jj_le rfl) dJ0_checkIndex_df160_5 rfl (fun _ _ hX => hX.elim) (fun w1 r O_5 => ?_)
    obtain ⟨rfl, rfl⟩ := O_5
    refine jj_apd rfl ?_
    refine jj_pop C dJ0_checkIndex_df160_8 rfl ?_
    exact jj_vret C ⟨rfl, rfl⟩ dJ0_checkIndex_df160_9 (jj_le rfl) (jj_le rfl)

set_option maxHeartbeats 4000000 in
set_option maxRecDepth 100000 in
theorem ct_J1_charAt_3b067_8 {l : Launch} (hl : l.stackTraces = false) (D : va_G) (cA : Nat → ClassId) (ak : (Nat → Nat) × (Nat → Nat)) : jj_M l D cA ak yJ1_charAt_3b067 (.code yJ1_charAt_3b067 cJ1_charAt_3b067 2 (some .char)) 2 43 0 0 [] [.ref (ak.2 1), .int 3] (fun (w : va_W) (r : Option Value) => (w = [] ∧ r = some (.int 97))) jj_noX := by
  refine jj_start hl (by decide) jw_6996a9eac3 (jj_le rfl) ?_
  intro p e s m args below meth c A hargs hA C hex hmn
  refine jj_iload_n C dJ1_charAt_3b067_0 rfl ?_
  refine jj_aload_n C dJ1_charAt_3b067_1 rfl ?_
  refine jj_slen (k := 1) (v := 5) C (by decide) (by decide) dJ1_charAt_3b067_2 ?_
  refine jq_callS (rest := []) C (ct_J0_checkIndex_df160_8 hl D cA ak) [] [] rfl rfl (by decide) (by decide) (by decide) jw_763fabfbf2 jw_9aa540e9dd jw_4ea6285965 jw_73f64df4e3 jn_J0_checkIndex_df160 rfl (jj_le rfl) (jj_le rfl) (jj_le rfl) (jj_le rfl) (jj_le rfl) dJ1_charAt_3b067_3 rfl (fun _ _ hX => hX.elim) (fun w1 r O_2 => ?_)
  obtain ⟨rfl, rfl⟩ := O_2
  refine jj_apd rfl ?_
  refine jj_aload_n C dJ1_charAt_3b067_6 rfl ?_
  refine jj_iload_n C dJ1_charAt_3b067_7 rfl ?_
  refine jj_sbyt (k := 1) (v := 97) C (by decide) (vp_in_iff.mpr (by decide)) (by decide) dJ1_charAt_3b067_8 ?_
  refine jj_sipush (v := 255) C dJ1_charAt_3b067_9 (by decide) ?_
  refine jj_iand (v := 97) C dJ1_charAt_3b067_12 (by decide) ?_
  refine jj_i2c (v := 97) C dJ1_charAt_3b067_13 (by decide) ?_
  exact jj_zret C rfl ⟨rfl, rfl⟩ dJ1_charAt_3b067_14 (jj_le rfl) (jj_le rfl)

set_option maxHeartbeats 4000000 in
set_option maxRecDepth 100000 in
theorem ct_J0_charAt_5068e_8 {l : Launch} (hl : l.stackTraces = false) (D : va_G) (cA : Nat → ClassId) (ak : (Nat → Nat) × (Nat → Nat)) : jj_M l D cA ak yJ0_charAt_5068e (.code yJ0_charAt_5068e cJ0_charAt_5068e 2 (some .char)) 3 64 0 0 [] [.ref (ak.1 1), .int 3] (fun (w : va_W) (r : Option Value) => (w = [] ∧ r = some (.int 97))) jj_noX := by
  refine jj_start hl (by decide) jw_391c0f56bd (jj_le rfl) ?_
  intro p e s m args below meth c A hargs hA C hex hmn
  refine jj_aload_n C dJ0_charAt_5068e_0 rfl ?_
  refine jq_callVs (rest := []) C (ct_J0_isLatin1_aae02_2 hl D cA ak) [] [] rfl rfl (by decide) (by decide) (by decide) 1 (by decide) rfl jw_5ca960aa2e jw_b7ba7c03ae jw_c4fe6f1e08 jw_4ea6285965 jw_1aa7753999 jn_J0_isLatin1_aae02 rfl (jj_le rfl) (jj_le rfl) (jj_le rfl) (jj_le rfl) (jj_le rfl) dJ0_charAt_5068e_1 rfl (fun _ _ hX => hX.elim) (fun w1 r O_2 => ?_)
  obtain ⟨rfl, rfl⟩ := O_2
  refine jj_apd rfl ?_
  refine jj_if_eqF (tgt := 16) C dJ0_charAt_5068e_4 (by decide) (by decide) ?_
  refine jj_aload_n C dJ0_charAt_5068e_7 rfl ?_
  refine jj_sval (k := 1) C (by decide) jw_90a506b1c3 dJ0_charAt_5068e_8 ?_
  refine jj_iload_n C dJ0_charAt_5068e_11 rfl ?_
  refine jq_callS (rest := []) C (ct_J1_charAt_3b067_8 hl D cA ak) [] [] rfl rfl (by decide) (by decide) (by decide) jw_7e2463d496 jw_530d7ac64c jw_2a3a2ce6ce jw_6996a9eac3 jn_J1_charAt_3b067 rfl (jj_le rfl) (jj_le rfl) (jj_le rfl) (jj_le rfl) (jj_le rfl) dJ0_charAt_5068e_12 rfl (fun _ _ hX => hX.elim) (fun w1 r O_4 => ?_)
  obtain ⟨rfl, rfl⟩ := O_4
  refine jj_apd rfl ?_
  exact jj_zret C rfl ⟨rfl, rfl⟩ dJ0_charAt_5068e_15 (jj_le rfl) (jj_le rfl)

set_option maxHeartbeats 4000000 in
set_option maxRecDepth 100000 in
theorem ct_J3_checkIndex_8e157_17 {l : Launch} (hl : l.stackTraces = false) (D : va_G) (cA : Nat → ClassId) (ak : (Nat → Nat) × (Nat → Nat)) (h0 : Nat) : jj_M l D cA ak yJ3_checkIndex_8e157 (.code yJ3_checkIndex_8e157 cJ3_checkIndex_8e157 3 (some .int)) 0 0 0 0 [] [.int 4, .int 5, .ref h0] (fun (w : va_W) (r : Option Value) => (w = [] ∧ r = some (.int 4))) jj_noX := by
  refine jj_start hl (by decide) jw_da9869a695 (jj_le rfl) ?_
  intro p e s m args below meth c A hargs hA C hex hmn
  refine jj_iload_n C dJ3_checkIndex_8e157_0 rfl ?_
  refine jj_if_ltF (tgt := 9) C dJ3_checkIndex_8e157_1 (by decide) (by decide) ?_
  refine jj_iload_n C dJ3_checkIndex_8e157_4 rfl ?_
  refine jj_iload_n C dJ3_checkIndex_8e157_5 rfl ?_
  refine jj_icmp_ltT (tgt := 16) C dJ3_checkIndex_8e157_6 (by decide) (by decide) ?_
  refine jj_iload_n C dJ3_checkIndex_8e157_16 rfl ?_
  exact jj_iret C ⟨rfl, rfl⟩ dJ3_checkIndex_8e157_17 (jj_le rfl) (jj_le rfl)

set_option maxHeartbeats 4000000 in
set_option maxRecDepth 100000 in
theorem ct_J3_checkIndex_8e157_18 {l : Launch} (hl : l.stackTraces = false) (D : va_G) (cA : Nat → ClassId) (ak : (Nat → Nat) × (Nat → Nat)) : jj_M l D cA ak yJ3_checkIndex_8e157 (.code yJ3_checkIndex_8e157 cJ3_checkIndex_8e157 3 (some .int)) 0 0 0 0 [] [.int 4, .int 5, .null] (fun (w : va_W) (r : Option Value) => (w = [] ∧ r = some (.int 4))) jj_noX := by
  refine jj_start hl (by decide) jw_da9869a695 (jj_le rfl) ?_
  intro p e s m args below meth c A hargs hA C hex hmn
  refine jj_iload_n C dJ3_checkIndex_8e157_0 rfl ?_
  refine jj_if_ltF (tgt := 9) C dJ3_checkIndex_8e157_1 (by decide) (by decide) ?_
  refine jj_iload_n C dJ3_checkIndex_8e157_4 rfl ?_
  refine jj_iload_n C dJ3_checkIndex_8e157_5 rfl ?_
  refine jj_icmp_ltT (tgt := 16) C dJ3_checkIndex_8e157_6 (by decide) (by decide) ?_
  refine jj_iload_n C dJ3_checkIndex_8e157_16 rfl ?_
  exact jj_iret C ⟨rfl, rfl⟩ dJ3_checkIndex_8e157_17 (jj_le rfl) (jj_le rfl)

set_option maxHeartbeats 4000000 in
set_option maxRecDepth 100000 in
theorem ct_J0_checkIndex_df160_9 {l : Launch} (hl : l.stackTraces = false) (D : va_G) (cA : Nat → ClassId) (ak : (Nat → Nat) × (Nat → Nat)) : jj_M l D cA ak yJ0_checkIndex_df160 (.code yJ0_checkIndex_df160 cJ0_checkIndex_df160 2 none) 1 22 0 0 [] [.int 4, .int 5] (fun (w : va_W) (r : Option Value) => (w = [] ∧ r = none)) jj_noX := by
  refine jj_start hl (by decide) jw_73f64df4e3 (jj_le rfl) ?_
  intro p e s m args below meth c A hargs hA C hex hmn
  refine jj_iload_n C dJ0_checkIndex_df160_0 rfl ?_
  refine jj_iload_n C dJ0_checkIndex_df160_1 rfl ?_
  refine jj_gfm C jw_040150fc39 dJ0_checkIndex_df160_2 (fun t_1 => ?_) ?_
  · refine jq_callS (rest := []) C (ct_J3_checkIndex_8e157_17 hl D cA ak t_1) [] [] rfl rfl (by decide) (by decide) (by decide) jw_a7a8b385a1 jw_8d35bed6b0 jw_2c7dffdd00 jw_da9869a695 jn_J3_checkIndex_8e157 rfl (jj_le rfl) (jj_le rfl) (jj_le rfl) (jj_le rfl) (jj_le rfl) dJ0_checkIndex_df160_5 rfl (fun _ _ hX => hX.elim) (fun w1 r O_3 => ?_)
    obtain ⟨rfl, rfl⟩ := O_3
    refine jj_apd rfl ?_
    refine jj_pop C dJ0_checkIndex_df160_8 rfl ?_
    exact jj_vret C ⟨rfl, rfl⟩ dJ0_checkIndex_df160_9 (jj_le rfl) (jj_le rfl)
  · refine jq_callS (rest := []) C (ct_J3_checkIndex_8e157_18 hl D cA ak) [] [] rfl rfl (by decide) (by decide) (by decide) jw_a7a8b385a1 jw_8d35bed6b0 jw_2c7dffdd00 jw_da9869a695 jn_J3_checkIndex_8e157 rfl (jj_le rfl) (jj_le rfl) (jj_le rfl) (jj_le rfl) (jj_le rfl) dJ0_checkIndex_df160_5 rfl (fun _ _ hX => hX.elim) (fun w1 r O_5 => ?_)
    obtain ⟨rfl, rfl⟩ := O_5
    refine jj_apd rfl ?_
    refine jj_pop C dJ0_checkIndex_df160_8 rfl ?_
    exact jj_vret C ⟨rfl, rfl⟩ dJ0_checkIndex_df160_9 (jj_le rfl) (jj_le rfl)

set_option maxHeartbeats 4000000 in
set_option maxRecDepth 100000 in
theorem ct_J1_charAt_3b067_9 {l : Launch} (hl : l.stackTraces = false) (D : va_G) (cA : Nat → ClassId) (ak : (Nat → Nat) × (Nat → Nat)) : jj_M l D cA ak yJ1_charAt_3b067 (.code yJ1_charAt_3b067 cJ1_charAt_3b067 2 (some .char)) 2 43 0 0 [] [.ref (ak.2 1), .int 4] (fun (w : va_W) (r : Option Value) => (w = [] ∧ r = some (.int 108))) jj_noX := by
  refine jj_start hl (by decide) jw_6996a9eac3 (jj_le rfl) ?_
  intro p e s m args below meth c A hargs hA C hex hmn
  refine jj_iload_n C dJ1_charAt_3b067_0 rfl ?_
  refine jj_aload_n C dJ1_charAt_3b067_1 rfl ?_
  refine jj_slen (k := 1) (v := 5) C (by decide) (by decide) dJ1_charAt_3b067_2 ?_
  refine jq_callS (rest := []) C (ct_J0_checkIndex_df160_9 hl D cA ak) [] [] rfl rfl (by decide) (by decide) (by decide) jw_763fabfbf2 jw_9aa540e9dd jw_4ea6285965 jw_73f64df4e3 jn_J0_checkIndex_df160 rfl (jj_le rfl) (jj_le rfl) (jj_le rfl) (jj_le rfl) (jj_le rfl) dJ1_charAt_3b067_3 rfl (fun _ _ hX => hX.elim) (fun w1 r O_2 => ?_)
  obtain ⟨rfl, rfl⟩ := O_2
  refine jj_apd rfl ?_
  refine jj_aload_n C dJ1_charAt_3b067_6 rfl ?_
  refine jj_iload_n C dJ1_charAt_3b067_7 rfl ?_
  refine jj_sbyt (k := 1) (v := 108) C (by decide) (vp_in_iff.mpr (by decide)) (by decide) dJ1_charAt_3b067_8 ?_
  refine jj_sipush (v := 255) C dJ1_charAt_3b067_9 (by decide) ?_
  refine jj_iand (v := 108) C dJ1_charAt_3b067_12 (by decide) ?_
  refine jj_i2c (v := 108) C dJ1_charAt_3b067_13 (by decide) ?_
  exact jj_zret C rfl ⟨rfl, rfl⟩ dJ1_charAt_3b067_14 (jj_le rfl) (jj_le rfl)

set_option maxHeartbeats 4000000 in
set_option maxRecDepth 100000 in
theorem ct_J0_charAt_5068e_9 {l : Launch} (hl : l.stackTraces = false) (D : va_G) (cA : Nat → ClassId) (ak : (Nat → Nat) × (Nat → Nat)) : jj_M l D cA ak yJ0_charAt_5068e (.code yJ0_charAt_5068e cJ0_charAt_5068e 2 (some .char)) 3 64 0 0 [] [.ref (ak.1 1), .int 4] (fun (w : va_W) (r : Option Value) => (w = [] ∧ r = some (.int 108))) jj_noX := by
  refine jj_start hl (by decide) jw_391c0f56bd (jj_le rfl) ?_
  intro p e s m args below meth c A hargs hA C hex hmn
  refine jj_aload_n C dJ0_charAt_5068e_0 rfl ?_
  refine jq_callVs (rest := []) C (ct_J0_isLatin1_aae02_2 hl D cA ak) [] [] rfl rfl (by decide) (by decide) (by decide) 1 (by decide) rfl jw_5ca960aa2e jw_b7ba7c03ae jw_c4fe6f1e08 jw_4ea6285965 jw_1aa7753999 jn_J0_isLatin1_aae02 rfl (jj_le rfl) (jj_le rfl) (jj_le rfl) (jj_le rfl) (jj_le rfl) dJ0_charAt_5068e_1 rfl (fun _ _ hX => hX.elim) (fun w1 r O_2 => ?_)
  obtain ⟨rfl, rfl⟩ := O_2
  refine jj_apd rfl ?_
  refine jj_if_eqF (tgt := 16) C dJ0_charAt_5068e_4 (by decide) (by decide) ?_
  refine jj_aload_n C dJ0_charAt_5068e_7 rfl ?_
  refine jj_sval (k := 1) C (by decide) jw_90a506b1c3 dJ0_charAt_5068e_8 ?_
  refine jj_iload_n C dJ0_charAt_5068e_11 rfl ?_
  refine jq_callS (rest := []) C (ct_J1_charAt_3b067_9 hl D cA ak) [] [] rfl rfl (by decide) (by decide) (by decide) jw_7e2463d496 jw_530d7ac64c jw_2a3a2ce6ce jw_6996a9eac3 jn_J1_charAt_3b067 rfl (jj_le rfl) (jj_le rfl) (jj_le rfl) (jj_le rfl) (jj_le rfl) dJ0_charAt_5068e_12 rfl (fun _ _ hX => hX.elim) (fun w1 r O_4 => ?_)
  obtain ⟨rfl, rfl⟩ := O_4
  refine jj_apd rfl ?_
  exact jj_zret C rfl ⟨rfl, rfl⟩ dJ0_charAt_5068e_15 (jj_le rfl) (jj_le rfl)

set_option maxHeartbeats 4000000 in
set_option maxRecDepth 100000 in
theorem ct_J0_coder_7d493_3 {l : Launch} (hl : l.stackTraces = false) (D : va_G) (cA : Nat → ClassId) (ak : (Nat → Nat) × (Nat → Nat)) : jj_M l D cA ak yJ0_coder_7d493 (.code yJ0_coder_7d493 cJ0_coder_7d493 1 (some .byte)) 0 0 0 0 [] [.ref (ak.1 2)] (fun (w : va_W) (r : Option Value) => (w = [] ∧ r = some (.int 0))) jj_noX := by
  refine jj_start hl (by decide) jw_084b973d83 (jj_le rfl) ?_
  intro p e s m args below meth c A hargs hA C hex hmn
  refine jj_gcs C jw_478bb18c33 dJ0_coder_7d493_0 ?_
  refine jj_if_eqF (tgt := 13) C dJ0_coder_7d493_3 (by decide) (by decide) ?_
  refine jj_aload_n C dJ0_coder_7d493_6 rfl ?_
  refine jj_scod (k := 2) C (by decide) jw_7816d6e515 dJ0_coder_7d493_7 ?_
  refine jj_goto (tgt := 14) C dJ0_coder_7d493_10 (by decide) ?_
  exact jj_zret C rfl ⟨rfl, rfl⟩ dJ0_coder_7d493_14 (jj_le rfl) (jj_le rfl)

set_option maxHeartbeats 4000000 in
set_option maxRecDepth 100000 in
theorem ct_J0_length_8abf5_3 {l : Launch} (hl : l.stackTraces = false) (D : va_G) (cA : Nat → ClassId) (ak : (Nat → Nat) × (Nat → Nat)) : jj_M l D cA ak yJ0_length_8abf5 (.code yJ0_length_8abf5 cJ0_length_8abf5 1 (some .int)) 1 20 0 0 [] [.ref (ak.1 2)] (fun (w : va_W) (r : Option Value) => (w = [] ∧ r = some (.int 6))) jj_noX := by
  refine jj_start hl (by decide) jw_bbc7045666 (jj_le rfl) ?_
  intro p e s m args below meth c A hargs hA C hex hmn
  refine jj_aload_n C dJ0_length_8abf5_0 rfl ?_
  refine jj_sval (k := 2) C (by decide) jw_90a506b1c3 dJ0_length_8abf5_1 ?_
  refine jj_slen (k := 2) (v := 6) C (by decide) (by decide) dJ0_length_8abf5_4 ?_
  refine jj_aload_n C dJ0_length_8abf5_5 rfl ?_
  refine jq_callVs (rest := [.int 6]) C (ct_J0_coder_7d493_3 hl D cA ak) [] [] rfl rfl (by decide) (by decide) (by decide) 2 (by decide) rfl jw_f46b3464d2 jw_35edddbded jw_31f76f5b78 jw_4ea6285965 jw_084b973d83 jn_J0_coder_7d493 rfl (jj_le rfl) (jj_le rfl) (jj_le rfl) (jj_le rfl) (jj_le rfl) dJ0_length_8abf5_6 rfl (fun _ _ hX => hX.elim) (fun w1 r O_2 => ?_)
  obtain ⟨rfl, rfl⟩ := O_2
  refine jj_apd rfl ?_
  refine jj_ishr (v := 6) C dJ0_length_8abf5_9 (by decide) ?_
  exact jj_iret C ⟨rfl, rfl⟩ dJ0_length_8abf5_10 (jj_le rfl) (jj_le rfl)

set_option maxHeartbeats 4000000 in
set_option maxRecDepth 100000 in
theorem ct_J0_isLatin1_aae02_3 {l : Launch} (hl : l.stackTraces = false) (D : va_G) (cA : Nat → ClassId) (ak : (Nat → Nat) × (Nat → Nat)) : jj_M l D cA ak yJ0_isLatin1_aae02 (.code yJ0_isLatin1_aae02 cJ0_isLatin1_aae02 1 (some .boolean)) 0 0 0 0 [] [.ref (ak.1 2)] (fun (w : va_W) (r : Option Value) => (w = [] ∧ r = some (.int 1))) jj_noX := by
  refine jj_start hl (by decide) jw_1aa7753999 (jj_le rfl) ?_
  intro p e s m args below meth c A hargs hA C hex hmn
  refine jj_gcs C jw_478bb18c33 dJ0_isLatin1_aae02_0 ?_
  refine jj_if_eqF (tgt := 17) C dJ0_isLatin1_aae02_3 (by decide) (by decide) ?_
  refine jj_aload_n C dJ0_isLatin1_aae02_6 rfl ?_
  refine jj_scod (k := 2) C (by decide) jw_7816d6e515 dJ0_isLatin1_aae02_7 ?_
  refine jj_if_neF (tgt := 17) C dJ0_isLatin1_aae02_10 (by decide) (by decide) ?_
  refine jj_iconst (v := 1) C dJ0_isLatin1_aae02_13 (by decide) ?_
  refine jj_goto (tgt := 18) C dJ0_isLatin1_aae02_14 (by decide) ?_
  exact jj_zret C rfl ⟨rfl, rfl⟩ dJ0_isLatin1_aae02_18 (jj_le rfl) (jj_le rfl)

set_option maxHeartbeats 4000000 in
set_option maxRecDepth 100000 in
theorem ct_J3_checkIndex_8e157_19 {l : Launch} (hl : l.stackTraces = false) (D : va_G) (cA : Nat → ClassId) (ak : (Nat → Nat) × (Nat → Nat)) (h0 : Nat) : jj_M l D cA ak yJ3_checkIndex_8e157 (.code yJ3_checkIndex_8e157 cJ3_checkIndex_8e157 3 (some .int)) 0 0 0 0 [] [.int 0, .int 6, .ref h0] (fun (w : va_W) (r : Option Value) => (w = [] ∧ r = some (.int 0))) jj_noX := by
  refine jj_start hl (by decide) jw_da9869a695 (jj_le rfl) ?_
  intro p e s m args below meth c A hargs hA C hex hmn
  refine jj_iload_n C dJ3_checkIndex_8e157_0 rfl ?_
  refine jj_if_ltF (tgt := 9) C dJ3_checkIndex_8e157_1 (by decide) (by decide) ?_
  refine jj_iload_n C dJ3_checkIndex_8e157_4 rfl ?_
  refine jj_iload_n C dJ3_checkIndex_8e157_5 rfl ?_
  refine jj_icmp_ltT (tgt := 16) C dJ3_checkIndex_8e157_6 (by decide) (by decide) ?_
  refine jj_iload_n C dJ3_checkIndex_8e157_16 rfl ?_
  exact jj_iret C ⟨rfl, rfl⟩ dJ3_checkIndex_8e157_17 (jj_le rfl) (jj_le rfl)

set_option maxHeartbeats 4000000 in
set_option maxRecDepth 100000 in
theorem ct_J3_checkIndex_8e157_20 {l : Launch} (hl : l.stackTraces = false) (D : va_G) (cA : Nat → ClassId) (ak : (Nat → Nat) × (Nat → Nat)) : jj_M l D cA ak yJ3_checkIndex_8e157 (.code yJ3_checkIndex_8e157 cJ3_checkIndex_8e157 3 (some .int)) 0 0 0 0 [] [.int 0, .int 6, .null] (fun (w : va_W) (r : Option Value) => (w = [] ∧ r = some (.int 0))) jj_noX := by
  refine jj_start hl (by decide) jw_da9869a695 (jj_le rfl) ?_
  intro p e s m args below meth c A hargs hA C hex hmn
  refine jj_iload_n C dJ3_checkIndex_8e157_0 rfl ?_
  refine jj_if_ltF (tgt := 9) C dJ3_checkIndex_8e157_1 (by decide) (by decide) ?_
  refine jj_iload_n C dJ3_checkIndex_8e157_4 rfl ?_
  refine jj_iload_n C dJ3_checkIndex_8e157_5 rfl ?_
  refine jj_icmp_ltT (tgt := 16) C dJ3_checkIndex_8e157_6 (by decide) (by decide) ?_
  refine jj_iload_n C dJ3_checkIndex_8e157_16 rfl ?_
  exact jj_iret C ⟨rfl, rfl⟩ dJ3_checkIndex_8e157_17 (jj_le rfl) (jj_le rfl)

set_option maxHeartbeats 4000000 in
set_option maxRecDepth 100000 in
theorem ct_J0_checkIndex_df160_10 {l : Launch} (hl : l.stackTraces = false) (D : va_G) (cA : Nat → ClassId) (ak : (Nat → Nat) × (Nat → Nat)) : jj_M l D cA ak yJ0_checkIndex_df160 (.code yJ0_checkIndex_df160 cJ0_checkIndex_df160 2 none) 1 22 0 0 [] [.int 0, .int 6] (fun (w : va_W) (r : Option Value) => (w = [] ∧ r = none)) jj_noX := by
  refine jj_start hl (by decide) jw_73f64df4e3 (jj_le rfl) ?_
  intro p e s m args below meth c A hargs hA C hex hmn
  refine jj_iload_n C dJ0_checkIndex_df160_0 rfl ?_
  refine jj_iload_n C dJ0_checkIndex_df160_1 rfl ?_
  refine jj_gfm C jw_040150fc39 dJ0_checkIndex_df160_2 (fun t_1 => ?_) ?_
  · refine jq_callS (rest := []) C (ct_J3_checkIndex_8e157_19 hl D cA ak t_1) [] [] rfl rfl (by decide) (by decide) (by decide) jw_a7a8b385a1 jw_8d35bed6b0 jw_2c7dffdd00 jw_da9869a695 jn_J3_checkIndex_8e157 rfl (jj_le rfl) (jj_le rfl) (jj_le rfl) (jj_le rfl) (jj_le rfl) dJ0_checkIndex_df160_5 rfl (fun _ _ hX => hX.elim) (fun w1 r O_3 => ?_)
    obtain ⟨rfl, rfl⟩ := O_3
    refine jj_apd rfl ?_
    refine jj_pop C dJ0_checkIndex_df160_8 rfl ?_
    exact jj_vret C ⟨rfl, rfl⟩ dJ0_checkIndex_df160_9 (jj_le rfl) (jj_le rfl)
  · refine jq_callS (rest := []) C (ct_J3_checkIndex_8e157_20 hl D cA ak) [] [] rfl rfl (by decide) (by decide) (by decide) jw_a7a8b385a1 jw_8d35bed6b0 jw_2c7dffdd00 jw_da9869a695 jn_J3_checkIndex_8e157 rfl (jj_le rfl) (jj_le rfl) (jj_le rfl) (jj_le rfl) (jj_le rfl) dJ0_checkIndex_df160_5 rfl (fun _ _ hX => hX.elim) (fun w1 r O_5 => ?_)
    obtain ⟨rfl, rfl⟩ := O_5
    refine jj_apd rfl ?_
    refine jj_pop C dJ0_checkIndex_df160_8 rfl ?_
    exact jj_vret C ⟨rfl, rfl⟩ dJ0_checkIndex_df160_9 (jj_le rfl) (jj_le rfl)

set_option maxHeartbeats 4000000 in
set_option maxRecDepth 100000 in
theorem ct_J1_charAt_3b067_10 {l : Launch} (hl : l.stackTraces = false) (D : va_G) (cA : Nat → ClassId) (ak : (Nat → Nat) × (Nat → Nat)) : jj_M l D cA ak yJ1_charAt_3b067 (.code yJ1_charAt_3b067 cJ1_charAt_3b067 2 (some .char)) 2 43 0 0 [] [.ref (ak.2 2), .int 0] (fun (w : va_W) (r : Option Value) => (w = [] ∧ r = some (.int 115))) jj_noX := by
  refine jj_start hl (by decide) jw_6996a9eac3 (jj_le rfl) ?_
  intro p e s m args below meth c A hargs hA C hex hmn
  refine jj_iload_n C dJ1_charAt_3b067_0 rfl ?_
  refine jj_aload_n C dJ1_charAt_3b067_1 rfl ?_
  refine jj_slen (k := 2) (v := 6) C (by decide) (by decide) dJ1_charAt_3b067_2 ?_
  refine jq_callS (rest := []) C (ct_J0_checkIndex_df160_10 hl D cA ak) [] [] rfl rfl (by decide) (by decide) (by decide) jw_763fabfbf2 jw_9aa540e9dd jw_4ea6285965 jw_73f64df4e3 jn_J0_checkIndex_df160 rfl (jj_le rfl) (jj_le rfl) (jj_le rfl) (jj_le rfl) (jj_le rfl) dJ1_charAt_3b067_3 rfl (fun _ _ hX => hX.elim) (fun w1 r O_2 => ?_)
  obtain ⟨rfl, rfl⟩ := O_2
  refine jj_apd rfl ?_
  refine jj_aload_n C dJ1_charAt_3b067_6 rfl ?_
  refine jj_iload_n C dJ1_charAt_3b067_7 rfl ?_
  refine jj_sbyt (k := 2) (v := 115) C (by decide) (vp_in_iff.mpr (by decide)) (by decide) dJ1_charAt_3b067_8 ?_
  refine jj_sipush (v := 255) C dJ1_charAt_3b067_9 (by decide) ?_
  refine jj_iand (v := 115) C dJ1_charAt_3b067_12 (by decide) ?_
  refine jj_i2c (v := 115) C dJ1_charAt_3b067_13 (by decide) ?_
  exact jj_zret C rfl ⟨rfl, rfl⟩ dJ1_charAt_3b067_14 (jj_le rfl) (jj_le rfl)

set_option maxHeartbeats 4000000 in
set_option maxRecDepth 100000 in
theorem ct_J0_charAt_5068e_10 {l : Launch} (hl : l.stackTraces = false) (D : va_G) (cA : Nat → ClassId) (ak : (Nat → Nat) × (Nat → Nat)) : jj_M l D cA ak yJ0_charAt_5068e (.code yJ0_charAt_5068e cJ0_charAt_5068e 2 (some .char)) 3 64 0 0 [] [.ref (ak.1 2), .int 0] (fun (w : va_W) (r : Option Value) => (w = [] ∧ r = some (.int 115))) jj_noX := by
  refine jj_start hl (by decide) jw_391c0f56bd (jj_le rfl) ?_
  intro p e s m args below meth c A hargs hA C hex hmn
  refine jj_aload_n C dJ0_charAt_5068e_0 rfl ?_
  refine jq_callVs (rest := []) C (ct_J0_isLatin1_aae02_3 hl D cA ak) [] [] rfl rfl (by decide) (by decide) (by decide) 2 (by decide) rfl jw_5ca960aa2e jw_b7ba7c03ae jw_c4fe6f1e08 jw_4ea6285965 jw_1aa7753999 jn_J0_isLatin1_aae02 rfl (jj_le rfl) (jj_le rfl) (jj_le rfl) (jj_le rfl) (jj_le rfl) dJ0_charAt_5068e_1 rfl (fun _ _ hX => hX.elim) (fun w1 r O_2 => ?_)
  obtain ⟨rfl, rfl⟩ := O_2
  refine jj_apd rfl ?_
  refine jj_if_eqF (tgt := 16) C dJ0_charAt_5068e_4 (by decide) (by decide) ?_
  refine jj_aload_n C dJ0_charAt_5068e_7 rfl ?_
  refine jj_sval (k := 2) C (by decide) jw_90a506b1c3 dJ0_charAt_5068e_8 ?_
  refine jj_iload_n C dJ0_charAt_5068e_11 rfl ?_
  refine jq_callS (rest := []) C (ct_J1_charAt_3b067_10 hl D cA ak) [] [] rfl rfl (by decide) (by decide) (by decide) jw_7e2463d496 jw_530d7ac64c jw_2a3a2ce6ce jw_6996a9eac3 jn_J1_charAt_3b067 rfl (jj_le rfl) (jj_le rfl) (jj_le rfl) (jj_le rfl) (jj_le rfl) dJ0_charAt_5068e_12 rfl (fun _ _ hX => hX.elim) (fun w1 r O_4 => ?_)
  obtain ⟨rfl, rfl⟩ := O_4
  refine jj_apd rfl ?_
  exact jj_zret C rfl ⟨rfl, rfl⟩ dJ0_charAt_5068e_15 (jj_le rfl) (jj_le rfl)

set_option maxHeartbeats 4000000 in
set_option maxRecDepth 100000 in
theorem ct_J3_checkIndex_8e157_21 {l : Launch} (hl : l.stackTraces = false) (D : va_G) (cA : Nat → ClassId) (ak : (Nat → Nat) × (Nat → Nat)) (h0 : Nat) : jj_M l D cA ak yJ3_checkIndex_8e157 (.code yJ3_checkIndex_8e157 cJ3_checkIndex_8e157 3 (some .int)) 0 0 0 0 [] [.int 1, .int 6, .ref h0] (fun (w : va_W) (r : Option Value) => (w = [] ∧ r = some (.int 1))) jj_noX := by
  refine jj_start hl (by decide) jw_da9869a695 (jj_le rfl) ?_
  intro p e s m args below meth c A hargs hA C hex hmn
  refine jj_iload_n C dJ3_checkIndex_8e157_0 rfl ?_
  refine jj_if_ltF (tgt := 9) C dJ3_checkIndex_8e157_1 (by decide) (by decide) ?_
  refine jj_iload_n C dJ3_checkIndex_8e157_4 rfl ?_
  refine jj_iload_n C dJ3_checkIndex_8e157_5 rfl ?_
  refine jj_icmp_ltT (tgt := 16) C dJ3_checkIndex_8e157_6 (by decide) (by decide) ?_
  refine jj_iload_n C dJ3_checkIndex_8e157_16 rfl ?_
  exact jj_iret C ⟨rfl, rfl⟩ dJ3_checkIndex_8e157_17 (jj_le rfl) (jj_le rfl)

set_option maxHeartbeats 4000000 in
set_option maxRecDepth 100000 in
theorem ct_J3_checkIndex_8e157_22 {l : Launch} (hl : l.stackTraces = false) (D : va_G) (cA : Nat → ClassId) (ak : (Nat → Nat) × (Nat → Nat)) : jj_M l D cA ak yJ3_checkIndex_8e157 (.code yJ3_checkIndex_8e157 cJ3_checkIndex_8e157 3 (some .int)) 0 0 0 0 [] [.int 1, .int 6, .null] (fun (w : va_W) (r : Option Value) => (w = [] ∧ r = some (.int 1))) jj_noX := by
  refine jj_start hl (by decide) jw_da9869a695 (jj_le rfl) ?_
  intro p e s m args below meth c A hargs hA C hex hmn
  refine jj_iload_n C dJ3_checkIndex_8e157_0 rfl ?_
  refine jj_if_ltF (tgt := 9) C dJ3_checkIndex_8e157_1 (by decide) (by decide) ?_
  refine jj_iload_n C dJ3_checkIndex_8e157_4 rfl ?_
  refine jj_iload_n C dJ3_checkIndex_8e157_5 rfl ?_
  refine jj_icmp_ltT (tgt := 16) C dJ3_checkIndex_8e157_6 (by decide) (by decide) ?_
  refine jj_iload_n C dJ3_checkIndex_8e157_16 rfl ?_
  exact jj_iret C ⟨rfl, rfl⟩ dJ3_checkIndex_8e157_17 (jj_le rfl) (jj_le rfl)

set_option maxHeartbeats 4000000 in
set_option maxRecDepth 100000 in
theorem ct_J0_checkIndex_df160_11 {l : Launch} (hl : l.stackTraces = false) (D : va_G) (cA : Nat → ClassId) (ak : (Nat → Nat) × (Nat → Nat)) : jj_M l D cA ak yJ0_checkIndex_df160 (.code yJ0_checkIndex_df160 cJ0_checkIndex_df160 2 none) 1 22 0 0 [] [.int 1, .int 6] (fun (w : va_W) (r : Option Value) => (w = [] ∧ r = none)) jj_noX := by
  refine jj_start hl (by decide) jw_73f64df4e3 (jj_le rfl) ?_
  intro p e s m args below meth c A hargs hA C hex hmn
  refine jj_iload_n C dJ0_checkIndex_df160_0 rfl ?_
  refine jj_iload_n C dJ0_checkIndex_df160_1 rfl ?_
  refine jj_gfm C jw_040150fc39 dJ0_checkIndex_df160_2 (fun t_1 => ?_) ?_
  · refine jq_callS (rest := []) C (ct_J3_checkIndex_8e157_21 hl D cA ak t_1) [] [] rfl rfl (by decide) (by decide) (by decide) jw_a7a8b385a1 jw_8d35bed6b0 jw_2c7dffdd00 jw_da9869a695 jn_J3_checkIndex_8e157 rfl (jj_le rfl) (jj_le rfl) (jj_le rfl) (jj_le rfl) (jj_le rfl) dJ0_checkIndex_df160_5 rfl (fun _ _ hX => hX.elim) (fun w1 r O_3 => ?_)
    obtain ⟨rfl, rfl⟩ := O_3
    refine jj_apd rfl ?_
    refine jj_pop C dJ0_checkIndex_df160_8 rfl ?_
    exact jj_vret C ⟨rfl, rfl⟩ dJ0_checkIndex_df160_9 (jj_le rfl) (jj_le rfl)
  · refine jq_callS (rest := []) C (ct_J3_checkIndex_8e157_22 hl D cA ak) [] [] rfl rfl (by decide) (by decide) (by decide) jw_a7a8b385a1 jw_8d35bed6b0 jw_2c7dffdd00 jw_da9869a695 jn_J3_checkIndex_8e157 rfl (jj_le rfl) (jj_le rfl) (jj_le rfl) (jj_le rfl) (jj_le rfl) dJ0_checkIndex_df160_5 rfl (fun _ _ hX => hX.elim) (fun w1 r O_5 => ?_)
    obtain ⟨rfl, rfl⟩ := O_5
    refine jj_apd rfl ?_
    refine jj_pop C dJ0_checkIndex_df160_8 rfl ?_
    exact jj_vret C ⟨rfl, rfl⟩ dJ0_checkIndex_df160_9 (jj_le rfl) (jj_le rfl)

set_option maxHeartbeats 4000000 in
set_option maxRecDepth 100000 in
theorem ct_J1_charAt_3b067_11 {l : Launch} (hl : l.stackTraces = false) (D : va_G) (cA : Nat → ClassId) (ak : (Nat → Nat) × (Nat → Nat)) : jj_M l D cA ak yJ1_charAt_3b067 (.code yJ1_charAt_3b067 cJ1_charAt_3b067 2 (some .char)) 2 43 0 0 [] [.ref (ak.2 2), .int 1] (fun (w : va_W) (r : Option Value) => (w = [] ∧ r = some (.int 101))) jj_noX := by
  refine jj_start hl (by decide) jw_6996a9eac3 (jj_le rfl) ?_
  intro p e s m args below meth c A hargs hA C hex hmn
  refine jj_iload_n C dJ1_charAt_3b067_0 rfl ?_
  refine jj_aload_n C dJ1_charAt_3b067_1 rfl ?_
  refine jj_slen (k := 2) (v := 6) C (by decide) (by decide) dJ1_charAt_3b067_2 ?_
  refine jq_callS (rest := []) C (ct_J0_checkIndex_df160_11 hl D cA ak) [] [] rfl rfl (by decide) (by decide) (by decide) jw_763fabfbf2 jw_9aa540e9dd jw_4ea6285965 jw_73f64df4e3 jn_J0_checkIndex_df160 rfl (jj_le rfl) (jj_le rfl) (jj_le rfl) (jj_le rfl) (jj_le rfl) dJ1_charAt_3b067_3 rfl (fun _ _ hX => hX.elim) (fun w1 r O_2 => ?_)
  obtain ⟨rfl, rfl⟩ := O_2
  refine jj_apd rfl ?_
  refine jj_aload_n C dJ1_charAt_3b067_6 rfl ?_
  refine jj_iload_n C dJ1_charAt_3b067_7 rfl ?_
  refine jj_sbyt (k := 2) (v := 101) C (by decide) (vp_in_iff.mpr (by decide)) (by decide) dJ1_charAt_3b067_8 ?_
  refine jj_sipush (v := 255) C dJ1_charAt_3b067_9 (by decide) ?_
  refine jj_iand (v := 101) C dJ1_charAt_3b067_12 (by decide) ?_
  refine jj_i2c (v := 101) C dJ1_charAt_3b067_13 (by decide) ?_
  exact jj_zret C rfl ⟨rfl, rfl⟩ dJ1_charAt_3b067_14 (jj_le rfl) (jj_le rfl)

set_option maxHeartbeats 4000000 in
set_option maxRecDepth 100000 in
theorem ct_J0_charAt_5068e_11 {l : Launch} (hl : l.stackTraces = false) (D : va_G) (cA : Nat → ClassId) (ak : (Nat → Nat) × (Nat → Nat)) : jj_M l D cA ak yJ0_charAt_5068e (.code yJ0_charAt_5068e cJ0_charAt_5068e 2 (some .char)) 3 64 0 0 [] [.ref (ak.1 2), .int 1] (fun (w : va_W) (r : Option Value) => (w = [] ∧ r = some (.int 101))) jj_noX := by
  refine jj_start hl (by decide) jw_391c0f56bd (jj_le rfl) ?_
  intro p e s m args below meth c A hargs hA C hex hmn
  refine jj_aload_n C dJ0_charAt_5068e_0 rfl ?_
  refine jq_callVs (rest := []) C (ct_J0_isLatin1_aae02_3 hl D cA ak) [] [] rfl rfl (by decide) (by decide) (by decide) 2 (by decide) rfl jw_5ca960aa2e jw_b7ba7c03ae jw_c4fe6f1e08 jw_4ea6285965 jw_1aa7753999 jn_J0_isLatin1_aae02 rfl (jj_le rfl) (jj_le rfl) (jj_le rfl) (jj_le rfl) (jj_le rfl) dJ0_charAt_5068e_1 rfl (fun _ _ hX => hX.elim) (fun w1 r O_2 => ?_)
  obtain ⟨rfl, rfl⟩ := O_2
  refine jj_apd rfl ?_
  refine jj_if_eqF (tgt := 16) C dJ0_charAt_5068e_4 (by decide) (by decide) ?_
  refine jj_aload_n C dJ0_charAt_5068e_7 rfl ?_
  refine jj_sval (k := 2) C (by decide) jw_90a506b1c3 dJ0_charAt_5068e_8 ?_
  refine jj_iload_n C dJ0_charAt_5068e_11 rfl ?_
  refine jq_callS (rest := []) C (ct_J1_charAt_3b067_11 hl D cA ak) [] [] rfl rfl (by decide) (by decide) (by decide) jw_7e2463d496 jw_530d7ac64c jw_2a3a2ce6ce jw_6996a9eac3 jn_J1_charAt_3b067 rfl (jj_le rfl) (jj_le rfl) (jj_le rfl) (jj_le rfl) (jj_le rfl) dJ0_charAt_5068e_12 rfl (fun _ _ hX => hX.elim) (fun w1 r O_4 => ?_)
  obtain ⟨rfl, rfl⟩ := O_4
  refine jj_apd rfl ?_
  exact jj_zret C rfl ⟨rfl, rfl⟩ dJ0_charAt_5068e_15 (jj_le rfl) (jj_le rfl)

set_option maxHeartbeats 4000000 in
set_option maxRecDepth 100000 in
theorem ct_J3_checkIndex_8e157_23 {l : Launch} (hl : l.stackTraces = false) (D : va_G) (cA : Nat → ClassId) (ak : (Nat → Nat) × (Nat → Nat)) (h0 : Nat) : jj_M l D cA ak yJ3_checkIndex_8e157 (.code yJ3_checkIndex_8e157 cJ3_checkIndex_8e157 3 (some .int)) 0 0 0 0 [] [.int 2, .int 6, .ref h0] (fun (w : va_W) (r : Option Value) => (w = [] ∧ r = some (.int 2))) jj_noX := by
  refine jj_start hl (by decide) jw_da9869a695 (jj_le rfl) ?_
  intro p e s m args below meth c A hargs hA C hex hmn
  refine jj_iload_n C dJ3_checkIndex_8e157_0 rfl ?_
  refine jj_if_ltF (tgt := 9) C dJ3_checkIndex_8e157_1 (by decide) (by decide) ?_
  refine jj_iload_n C dJ3_checkIndex_8e157_4 rfl ?_
  refine jj_iload_n C dJ3_checkIndex_8e157_5 rfl ?_
  refine jj_icmp_ltT (tgt := 16) C dJ3_checkIndex_8e157_6 (by decide) (by decide) ?_
  refine jj_iload_n C dJ3_checkIndex_8e157_16 rfl ?_
  exact jj_iret C ⟨rfl, rfl⟩ dJ3_checkIndex_8e157_17 (jj_le rfl) (jj_le rfl)

set_option maxHeartbeats 4000000 in
set_option maxRecDepth 100000 in
theorem ct_J3_checkIndex_8e157_24 {l : Launch} (hl : l.stackTraces = false) (D : va_G) (cA : Nat → ClassId) (ak : (Nat → Nat) × (Nat → Nat)) : jj_M l D cA ak yJ3_checkIndex_8e157 (.code yJ3_checkIndex_8e157 cJ3_checkIndex_8e157 3 (some .int)) 0 0 0 0 [] [.int 2, .int 6, .null] (fun (w : va_W) (r : Option Value) => (w = [] ∧ r = some (.int 2))) jj_noX := by
  refine jj_start hl (by decide) jw_da9869a695 (jj_le rfl) ?_
  intro p e s m args below meth c A hargs hA C hex hmn
  refine jj_iload_n C dJ3_checkIndex_8e157_0 rfl ?_
  refine jj_if_ltF (tgt := 9) C dJ3_checkIndex_8e157_1 (by decide) (by decide) ?_
  refine jj_iload_n C dJ3_checkIndex_8e157_4 rfl ?_
  refine jj_iload_n C dJ3_checkIndex_8e157_5 rfl ?_
  refine jj_icmp_ltT (tgt := 16) C dJ3_checkIndex_8e157_6 (by decide) (by decide) ?_
  refine jj_iload_n C dJ3_checkIndex_8e157_16 rfl ?_
  exact jj_iret C ⟨rfl, rfl⟩ dJ3_checkIndex_8e157_17 (jj_le rfl) (jj_le rfl)

set_option maxHeartbeats 4000000 in
set_option maxRecDepth 100000 in
theorem ct_J0_checkIndex_df160_12 {l : Launch} (hl : l.stackTraces = false) (D : va_G) (cA : Nat → ClassId) (ak : (Nat → Nat) × (Nat → Nat)) : jj_M l D cA ak yJ0_checkIndex_df160 (.code yJ0_checkIndex_df160 cJ0_checkIndex_df160 2 none) 1 22 0 0 [] [.int 2, .int 6] (fun (w : va_W) (r : Option Value) => (w = [] ∧ r = none)) jj_noX := by
  refine jj_start hl (by decide) jw_73f64df4e3 (jj_le rfl) ?_
  intro p e s m args below meth c A hargs hA C hex hmn
  refine jj_iload_n C dJ0_checkIndex_df160_0 rfl ?_
  refine jj_iload_n C dJ0_checkIndex_df160_1 rfl ?_
  refine jj_gfm C jw_040150fc39 dJ0_checkIndex_df160_2 (fun t_1 => ?_) ?_
  · refine jq_callS (rest := []) C (ct_J3_checkIndex_8e157_23 hl D cA ak t_1) [] [] rfl rfl (by decide) (by decide) (by decide) jw_a7a8b385a1 jw_8d35bed6b0 jw_2c7dffdd00 jw_da9869a695 jn_J3_checkIndex_8e157 rfl (jj_le rfl) (jj_le rfl) (jj_le rfl) (jj_le rfl) (jj_le rfl) dJ0_checkIndex_df160_5 rfl (fun _ _ hX => hX.elim) (fun w1 r O_3 => ?_)
    obtain ⟨rfl, rfl⟩ := O_3
    refine jj_apd rfl ?_
    refine jj_pop C dJ0_checkIndex_df160_8 rfl ?_
    exact jj_vret C ⟨rfl, rfl⟩ dJ0_checkIndex_df160_9 (jj_le rfl) (jj_le rfl)
  · refine jq_callS (rest := []) C (ct_J3_checkIndex_8e157_24 hl D cA ak) [] [] rfl rfl (by decide) (by decide) (by decide) jw_a7a8b385a1 jw_8d35bed6b0 jw_2c7dffdd00 jw_da9869a695 jn_J3_checkIndex_8e157 rfl (jj_le rfl) (jj_le rfl) (jj_le rfl) (jj_le rfl) (jj_le rfl) dJ0_checkIndex_df160_5 rfl (fun _ _ hX => hX.elim) (fun w1 r O_5 => ?_)
    obtain ⟨rfl, rfl⟩ := O_5
    refine jj_apd rfl ?_
    refine jj_pop C dJ0_checkIndex_df160_8 rfl ?_
    exact jj_vret C ⟨rfl, rfl⟩ dJ0_checkIndex_df160_9 (jj_le rfl) (jj_le rfl)

set_option maxHeartbeats 4000000 in
set_option maxRecDepth 100000 in
theorem ct_J1_charAt_3b067_12 {l : Launch} (hl : l.stackTraces = false) (D : va_G) (cA : Nat → ClassId) (ak : (Nat → Nat) × (Nat → Nat)) : jj_M l D cA ak yJ1_charAt_3b067 (.code yJ1_charAt_3b067 cJ1_charAt_3b067 2 (some .char)) 2 43 0 0 [] [.ref (ak.2 2), .int 2] (fun (w : va_W) (r : Option Value) => (w = [] ∧ r = some (.int 114))) jj_noX := by
  refine jj_start hl (by decide) jw_6996a9eac3 (jj_le rfl) ?_
  intro p e s m args below meth c A hargs hA C hex hmn
  refine jj_iload_n C dJ1_charAt_3b067_0 rfl ?_
  refine jj_aload_n C dJ1_charAt_3b067_1 rfl ?_
  refine jj_slen (k := 2) (v := 6) C (by decide) (by decide) dJ1_charAt_3b067_2 ?_
  refine jq_callS (rest := []) C (ct_J0_checkIndex_df160_12 hl D cA ak) [] [] rfl rfl (by decide) (by decide) (by decide) jw_763fabfbf2 jw_9aa540e9dd jw_4ea6285965 jw_73f64df4e3 jn_J0_checkIndex_df160 rfl (jj_le rfl) (jj_le rfl) (jj_le rfl) (jj_le rfl) (jj_le rfl) dJ1_charAt_3b067_3 rfl (fun _ _ hX => hX.elim) (fun w1 r O_2 => ?_)
  obtain ⟨rfl, rfl⟩ := O_2
  refine jj_apd rfl ?_
  refine jj_aload_n C dJ1_charAt_3b067_6 rfl ?_
  refine jj_iload_n C dJ1_charAt_3b067_7 rfl ?_
  refine jj_sbyt (k := 2) (v := 114) C (by decide) (vp_in_iff.mpr (by decide)) (by decide) dJ1_charAt_3b067_8 ?_
  refine jj_sipush (v := 255) C dJ1_charAt_3b067_9 (by decide) ?_
  refine jj_iand (v := 114) C dJ1_charAt_3b067_12 (by decide) ?_
  refine jj_i2c (v := 114) C dJ1_charAt_3b067_13 (by decide) ?_
  exact jj_zret C rfl ⟨rfl, rfl⟩ dJ1_charAt_3b067_14 (jj_le rfl) (jj_le rfl)

set_option maxHeartbeats 4000000 in
set_option maxRecDepth 100000 in
theorem ct_J0_charAt_5068e_12 {l : Launch} (hl : l.stackTraces = false) (D : va_G) (cA : Nat → ClassId) (ak : (Nat → Nat) × (Nat → Nat)) : jj_M l D cA ak yJ0_charAt_5068e (.code yJ0_charAt_5068e cJ0_charAt_5068e 2 (some .char)) 3 64 0 0 [] [.ref (ak.1 2), .int 2] (fun (w : va_W) (r : Option Value) => (w = [] ∧ r = some (.int 114))) jj_noX := by
  refine jj_start hl (by decide) jw_391c0f56bd (jj_le rfl) ?_
  intro p e s m args below meth c A hargs hA C hex hmn
  refine jj_aload_n C dJ0_charAt_5068e_0 rfl ?_
  refine jq_callVs (rest := []) C (ct_J0_isLatin1_aae02_3 hl D cA ak) [] [] rfl rfl (by decide) (by decide) (by decide) 2 (by decide) rfl jw_5ca960aa2e jw_b7ba7c03ae jw_c4fe6f1e08 jw_4ea6285965 jw_1aa7753999 jn_J0_isLatin1_aae02 rfl (jj_le rfl) (jj_le rfl) (jj_le rfl) (jj_le rfl) (jj_le rfl) dJ0_charAt_5068e_1 rfl (fun _ _ hX => hX.elim) (fun w1 r O_2 => ?_)
  obtain ⟨rfl, rfl⟩ := O_2
  refine jj_apd rfl ?_
  refine jj_if_eqF (tgt := 16) C dJ0_charAt_5068e_4 (by decide) (by decide) ?_
  refine jj_aload_n C dJ0_charAt_5068e_7 rfl ?_
  refine jj_sval (k := 2) C (by decide) jw_90a506b1c3 dJ0_charAt_5068e_8 ?_
  refine jj_iload_n C dJ0_charAt_5068e_11 rfl ?_
  refine jq_callS (rest := []) C (ct_J1_charAt_3b067_12 hl D cA ak) [] [] rfl rfl (by decide) (by decide) (by decide) jw_7e2463d496 jw_530d7ac64c jw_2a3a2ce6ce jw_6996a9eac3 jn_J1_charAt_3b067 rfl (jj_le rfl) (jj_le rfl) (jj_le rfl) (jj_le rfl) (jj_le rfl) dJ0_charAt_5068e_12 rfl (fun _ _ hX => hX.elim) (fun w1 r O_4 => ?_)
  obtain ⟨rfl, rfl⟩ := O_4
  refine jj_apd rfl ?_
  exact jj_zret C rfl ⟨rfl, rfl⟩ dJ0_charAt_5068e_15 (jj_le rfl) (jj_le rfl)

set_option maxHeartbeats 4000000 in
set_option maxRecDepth 100000 in
theorem ct_J3_checkIndex_8e157_25 {l : Launch} (hl : l.stackTraces = false) (D : va_G) (cA : Nat → ClassId) (ak : (Nat → Nat) × (Nat → Nat)) (h0 : Nat) : jj_M l D cA ak yJ3_checkIndex_8e157 (.code yJ3_checkIndex_8e157 cJ3_checkIndex_8e157 3 (some .int)) 0 0 0 0 [] [.int 3, .int 6, .ref h0] (fun (w : va_W) (r : Option Value) => (w = [] ∧ r = some (.int 3))) jj_noX := by
  refine jj_start hl (by decide) jw_da9869a695 (jj_le rfl) ?_
  intro p e s m args below meth c A hargs hA C hex hmn
  refine jj_iload_n C dJ3_checkIndex_8e157_0 rfl ?_
  refine jj_if_ltF (tgt := 9) C dJ3_checkIndex_8e157_1 (by decide) (by decide) ?_
  refine jj_iload_n C dJ3_checkIndex_8e157_4 rfl ?_
  refine jj_iload_n C dJ3_checkIndex_8e157_5 rfl ?_
  refine jj_icmp_ltT (tgt := 16) C dJ3_checkIndex_8e157_6 (by decide) (by decide) ?_
  refine jj_iload_n C dJ3_checkIndex_8e157_16 rfl ?_
  exact jj_iret C ⟨rfl, rfl⟩ dJ3_checkIndex_8e157_17 (jj_le rfl) (jj_le rfl)

set_option maxHeartbeats 4000000 in
set_option maxRecDepth 100000 in
theorem ct_J3_checkIndex_8e157_26 {l : Launch} (hl : l.stackTraces = false) (D : va_G) (cA : Nat → ClassId) (ak : (Nat → Nat) × (Nat → Nat)) : jj_M l D cA ak yJ3_checkIndex_8e157 (.code yJ3_checkIndex_8e157 cJ3_checkIndex_8e157 3 (some .int)) 0 0 0 0 [] [.int 3, .int 6, .null] (fun (w : va_W) (r : Option Value) => (w = [] ∧ r = some (.int 3))) jj_noX := by
  refine jj_start hl (by decide) jw_da9869a695 (jj_le rfl) ?_
  intro p e s m args below meth c A hargs hA C hex hmn
  refine jj_iload_n C dJ3_checkIndex_8e157_0 rfl ?_
  refine jj_if_ltF (tgt := 9) C dJ3_checkIndex_8e157_1 (by decide) (by decide) ?_
  refine jj_iload_n C dJ3_checkIndex_8e157_4 rfl ?_
  refine jj_iload_n C dJ3_checkIndex_8e157_5 rfl ?_
  refine jj_icmp_ltT (tgt := 16) C dJ3_checkIndex_8e157_6 (by decide) (by decide) ?_
  refine jj_iload_n C dJ3_checkIndex_8e157_16 rfl ?_
  exact jj_iret C ⟨rfl, rfl⟩ dJ3_checkIndex_8e157_17 (jj_le rfl) (jj_le rfl)

set_option maxHeartbeats 4000000 in
set_option maxRecDepth 100000 in
theorem ct_J0_checkIndex_df160_13 {l : Launch} (hl : l.stackTraces = false) (D : va_G) (cA : Nat → ClassId) (ak : (Nat → Nat) × (Nat → Nat)) : jj_M l D cA ak yJ0_checkIndex_df160 (.code yJ0_checkIndex_df160 cJ0_checkIndex_df160 2 none) 1 22 0 0 [] [.int 3, .int 6] (fun (w : va_W) (r : Option Value) => (w = [] ∧ r = none)) jj_noX := by
  refine jj_start hl (by decide) jw_73f64df4e3 (jj_le rfl) ?_
  intro p e s m args below meth c A hargs hA C hex hmn
  refine jj_iload_n C dJ0_checkIndex_df160_0 rfl ?_
  refine jj_iload_n C dJ0_checkIndex_df160_1 rfl ?_
  refine jj_gfm C jw_040150fc39 dJ0_checkIndex_df160_2 (fun t_1 => ?_) ?_
  · refine jq_callS (rest := []) C (ct_J3_checkIndex_8e157_25 hl D cA ak t_1) [] [] rfl rfl (by decide) (by decide) (by decide) jw_a7a8b385a1 jw_8d35bed6b0 jw_2c7dffdd00 jw_da9869a695 jn_J3_checkIndex_8e157 rfl (jj_le rfl) (jj_le rfl) (jj_le rfl) (jj_le rfl) (jj_le rfl) dJ0_checkIndex_df160_5 rfl (fun _ _ hX => hX.elim) (fun w1 r O_3 => ?_)
    obtain ⟨rfl, rfl⟩ := O_3
    refine jj_apd rfl ?_
    refine jj_pop C dJ0_checkIndex_df160_8 rfl ?_
    exact jj_vret C ⟨rfl, rfl⟩ dJ0_checkIndex_df160_9 (jj_le rfl) (jj_le rfl)
  · refine jq_callS (rest := []) C (ct_J3_checkIndex_8e157_26 hl D cA ak) [] [] rfl rfl (by decide) (by decide) (by decide) jw_a7a8b385a1 jw_8d35bed6b0 jw_2c7dffdd00 jw_da9869a695 jn_J3_checkIndex_8e157 rfl (jj_le rfl) (jj_le rfl) (jj_le rfl) (jj_le rfl) (jj_le rfl) dJ0_checkIndex_df160_5 rfl (fun _ _ hX => hX.elim) (fun w1 r O_5 => ?_)
    obtain ⟨rfl, rfl⟩ := O_5
    refine jj_apd rfl ?_
    refine jj_pop C dJ0_checkIndex_df160_8 rfl ?_
    exact jj_vret C ⟨rfl, rfl⟩ dJ0_checkIndex_df160_9 (jj_le rfl) (jj_le rfl)

set_option maxHeartbeats 4000000 in
set_option maxRecDepth 100000 in
theorem ct_J1_charAt_3b067_13 {l : Launch} (hl : l.stackTraces = false) (D : va_G) (cA : Nat → ClassId) (ak : (Nat → Nat) × (Nat → Nat)) : jj_M l D cA ak yJ1_charAt_3b067 (.code yJ1_charAt_3b067 cJ1_charAt_3b067 2 (some .char)) 2 43 0 0 [] [.ref (ak.2 2), .int 3] (fun (w : va_W) (r : Option Value) => (w = [] ∧ r = some (.int 105))) jj_noX := by
  refine jj_start hl (by decide) jw_6996a9eac3 (jj_le rfl) ?_
  intro p e s m args below meth c A hargs hA C hex hmn
  refine jj_iload_n C dJ1_charAt_3b067_0 rfl ?_
  refine jj_aload_n C dJ1_charAt_3b067_1 rfl ?_
  refine jj_slen (k := 2) (v := 6) C (by decide) (by decide) dJ1_charAt_3b067_2 ?_
  refine jq_callS (rest := []) C (ct_J0_checkIndex_df160_13 hl D cA ak) [] [] rfl rfl (by decide) (by decide) (by decide) jw_763fabfbf2 jw_9aa540e9dd jw_4ea6285965 jw_73f64df4e3 jn_J0_checkIndex_df160 rfl (jj_le rfl) (jj_le rfl) (jj_le rfl) (jj_le rfl) (jj_le rfl) dJ1_charAt_3b067_3 rfl (fun _ _ hX => hX.elim) (fun w1 r O_2 => ?_)
  obtain ⟨rfl, rfl⟩ := O_2
  refine jj_apd rfl ?_
  refine jj_aload_n C dJ1_charAt_3b067_6 rfl ?_
  refine jj_iload_n C dJ1_charAt_3b067_7 rfl ?_
  refine jj_sbyt (k := 2) (v := 105) C (by decide) (vp_in_iff.mpr (by decide)) (by decide) dJ1_charAt_3b067_8 ?_
  refine jj_sipush (v := 255) C dJ1_charAt_3b067_9 (by decide) ?_
  refine jj_iand (v := 105) C dJ1_charAt_3b067_12 (by decide) ?_
  refine jj_i2c (v := 105) C dJ1_charAt_3b067_13 (by decide) ?_
  exact jj_zret C rfl ⟨rfl, rfl⟩ dJ1_charAt_3b067_14 (jj_le rfl) (jj_le rfl)

set_option maxHeartbeats 4000000 in
set_option maxRecDepth 100000 in
theorem ct_J0_charAt_5068e_13 {l : Launch} (hl : l.stackTraces = false) (D : va_G) (cA : Nat → ClassId) (ak : (Nat → Nat) × (Nat → Nat)) : jj_M l D cA ak yJ0_charAt_5068e (.code yJ0_charAt_5068e cJ0_charAt_5068e 2 (some .char)) 3 64 0 0 [] [.ref (ak.1 2), .int 3] (fun (w : va_W) (r : Option Value) => (w = [] ∧ r = some (.int 105))) jj_noX := by
  refine jj_start hl (by decide) jw_391c0f56bd (jj_le rfl) ?_
  intro p e s m args below meth c A hargs hA C hex hmn
  refine jj_aload_n C dJ0_charAt_5068e_0 rfl ?_
  refine jq_callVs (rest := []) C (ct_J0_isLatin1_aae02_3 hl D cA ak) [] [] rfl rfl (by decide) (by decide) (by decide) 2 (by decide) rfl jw_5ca960aa2e jw_b7ba7c03ae jw_c4fe6f1e08 jw_4ea6285965 jw_1aa7753999 jn_J0_isLatin1_aae02 rfl (jj_le rfl) (jj_le rfl) (jj_le rfl) (jj_le rfl) (jj_le rfl) dJ0_charAt_5068e_1 rfl (fun _ _ hX => hX.elim) (fun w1 r O_2 => ?_)
  obtain ⟨rfl, rfl⟩ := O_2
  refine jj_apd rfl ?_
  refine jj_if_eqF (tgt := 16) C dJ0_charAt_5068e_4 (by decide) (by decide) ?_
  refine jj_aload_n C dJ0_charAt_5068e_7 rfl ?_
  refine jj_sval (k := 2) C (by decide) jw_90a506b1c3 dJ0_charAt_5068e_8 ?_
  refine jj_iload_n C dJ0_charAt_5068e_11 rfl ?_
  refine jq_callS (rest := []) C (ct_J1_charAt_3b067_13 hl D cA ak) [] [] rfl rfl (by decide) (by decide) (by decide) jw_7e2463d496 jw_530d7ac64c jw_2a3a2ce6ce jw_6996a9eac3 jn_J1_charAt_3b067 rfl (jj_le rfl) (jj_le rfl) (jj_le rfl) (jj_le rfl) (jj_le rfl) dJ0_charAt_5068e_12 rfl (fun _ _ hX => hX.elim) (fun w1 r O_4 => ?_)
  obtain ⟨rfl, rfl⟩ := O_4
  refine jj_apd rfl ?_
  exact jj_zret C rfl ⟨rfl, rfl⟩ dJ0_charAt_5068e_15 (jj_le rfl) (jj_le rfl)

set_option maxHeartbeats 4000000 in
set_option maxRecDepth 100000 in
theorem ct_J3_checkIndex_8e157_27 {l : Launch} (hl : l.stackTraces = false) (D : va_G) (cA : Nat → ClassId) (ak : (Nat → Nat) × (Nat → Nat)) (h0 : Nat) : jj_M l D cA ak yJ3_checkIndex_8e157 (.code yJ3_checkIndex_8e157 cJ3_checkIndex_8e157 3 (some .int)) 0 0 0 0 [] [.int 4, .int 6, .ref h0] (fun (w : va_W) (r : Option Value) => (w = [] ∧ r = some (.int 4))) jj_noX := by
  refine jj_start hl (by decide) jw_da9869a695 (jj_le rfl) ?_
  intro p e s m args below meth c A hargs hA C hex hmn
  refine jj_iload_n C dJ3_checkIndex_8e157_0 rfl ?_
  refine jj_if_ltF (tgt := 9) C dJ3_checkIndex_8e157_1 (by decide) (by decide) ?_
  refine jj_iload_n C dJ3_checkIndex_8e157_4 rfl ?_
  refine jj_iload_n C dJ3_checkIndex_8e157_5 rfl ?_
  refine jj_icmp_ltT (tgt := 16) C dJ3_checkIndex_8e157_6 (by decide) (by decide) ?_
  refine jj_iload_n C dJ3_checkIndex_8e157_16 rfl ?_
  exact jj_iret C ⟨rfl, rfl⟩ dJ3_checkIndex_8e157_17 (jj_le rfl) (jj_le rfl)

set_option maxHeartbeats 4000000 in
set_option maxRecDepth 100000 in
theorem ct_J3_checkIndex_8e157_28 {l : Launch} (hl : l.stackTraces = false) (D : va_G) (cA : Nat → ClassId) (ak : (Nat → Nat) × (Nat → Nat)) : jj_M l D cA ak yJ3_checkIndex_8e157 (.code yJ3_checkIndex_8e157 cJ3_checkIndex_8e157 3 (some .int)) 0 0 0 0 [] [.int 4, .int 6, .null] (fun (w : va_W) (r : Option Value) => (w = [] ∧ r = some (.int 4))) jj_noX := by
  refine jj_start hl (by decide) jw_da9869a695 (jj_le rfl) ?_
  intro p e s m args below meth c A hargs hA C hex hmn
  refine jj_iload_n C dJ3_checkIndex_8e157_0 rfl ?_
  refine jj_if_ltF (tgt := 9) C dJ3_checkIndex_8e157_1 (by decide) (by decide) ?_
  refine jj_iload_n C dJ3_checkIndex_8e157_4 rfl ?_
  refine jj_iload_n C dJ3_checkIndex_8e157_5 rfl ?_
  refine jj_icmp_ltT (tgt := 16) C dJ3_checkIndex_8e157_6 (by decide) (by decide) ?_
  refine jj_iload_n C dJ3_checkIndex_8e157_16 rfl ?_
  exact jj_iret C ⟨rfl, rfl⟩ dJ3_checkIndex_8e157_17 (jj_le rfl) (jj_le rfl)

set_option maxHeartbeats 4000000 in
set_option maxRecDepth 100000 in
theorem ct_J0_checkIndex_df160_14 {l : Launch} (hl : l.stackTraces = false) (D : va_G) (cA : Nat → ClassId) (ak : (Nat → Nat) × (Nat → Nat)) : jj_M l D cA ak yJ0_checkIndex_df160 (.code yJ0_checkIndex_df160 cJ0_checkIndex_df160 2 none) 1 22 0 0 [] [.int 4, .int 6] (fun (w : va_W) (r : Option Value) => (w = [] ∧ r = none)) jj_noX := by
  refine jj_start hl (by decide) jw_73f64df4e3 (jj_le rfl) ?_
  intro p e s m args below meth c A hargs hA C hex hmn
  refine jj_iload_n C dJ0_checkIndex_df160_0 rfl ?_
  refine jj_iload_n C dJ0_checkIndex_df160_1 rfl ?_
  refine jj_gfm C jw_040150fc39 dJ0_checkIndex_df160_2 (fun t_1 => ?_) ?_
  · refine jq_callS (rest := []) C (ct_J3_checkIndex_8e157_27 hl D cA ak t_1) [] [] rfl rfl (by decide) (by decide) (by decide) jw_a7a8b385a1 jw_8d35bed6b0 jw_2c7dffdd00 jw_da9869a695 jn_J3_checkIndex_8e157 rfl (jj_le rfl) (jj_le rfl) (jj_le rfl) (jj_le rfl) (jj_le rfl) dJ0_checkIndex_df160_5 rfl (fun _ _ hX => hX.elim) (fun w1 r O_3 => ?_)
    obtain ⟨rfl, rfl⟩ := O_3
    refine jj_apd rfl ?_
    refine jj_pop C dJ0_checkIndex_df160_8 rfl ?_
    exact jj_vret C ⟨rfl, rfl⟩ dJ0_checkIndex_df160_9 (jj_le rfl) (jj_le rfl)
  · refine jq_callS (rest := []) C (ct_J3_checkIndex_8e157_28 hl D cA ak) [] [] rfl rfl (by decide) (by decide) (by decide) jw_a7a8b385a1 jw_8d35bed6b0 jw_2c7dffdd00 jw_da9869a695 jn_J3_checkIndex_8e157 rfl (jj_le rfl) (jj_le rfl) (jj_le rfl) (jj_le rfl) (jj_le rfl) dJ0_checkIndex_df160_5 rfl (fun _ _ hX => hX.elim) (fun w1 r O_5 => ?_)
    obtain ⟨rfl, rfl⟩ := O_5
    refine jj_apd rfl ?_
    refine jj_pop C dJ0_checkIndex_df160_8 rfl ?_
    exact jj_vret C ⟨rfl, rfl⟩ dJ0_checkIndex_df160_9 (jj_le rfl) (jj_le rfl)

set_option maxHeartbeats 4000000 in
set_option maxRecDepth 100000 in
theorem ct_J1_charAt_3b067_14 {l : Launch} (hl : l.stackTraces = false) (D : va_G) (cA : Nat → ClassId) (ak : (Nat → Nat) × (Nat → Nat)) : jj_M l D cA ak yJ1_charAt_3b067 (.code yJ1_charAt_3b067 cJ1_charAt_3b067 2 (some .char)) 2 43 0 0 [] [.ref (ak.2 2), .int 4] (fun (w : va_W) (r : Option Value) => (w = [] ∧ r = some (.int 101))) jj_noX := by
  refine jj_start hl (by decide) jw_6996a9eac3 (jj_le rfl) ?_
  intro p e s m args below meth c A hargs hA C hex hmn
  refine jj_iload_n C dJ1_charAt_3b067_0 rfl ?_
  refine jj_aload_n C dJ1_charAt_3b067_1 rfl ?_
  refine jj_slen (k := 2) (v := 6) C (by decide) (by decide) dJ1_charAt_3b067_2 ?_
  refine jq_callS (rest := []) C (ct_J0_checkIndex_df160_14 hl D cA ak) [] [] rfl rfl (by decide) (by decide) (by decide) jw_763fabfbf2 jw_9aa540e9dd jw_4ea6285965 jw_73f64df4e3 jn_J0_checkIndex_df160 rfl (jj_le rfl) (jj_le rfl) (jj_le rfl) (jj_le rfl) (jj_le rfl) dJ1_charAt_3b067_3 rfl (fun _ _ hX => hX.elim) (fun w1 r O_2 => ?_)
  obtain ⟨rfl, rfl⟩ := O_2
  refine jj_apd rfl ?_
  refine jj_aload_n C dJ1_charAt_3b067_6 rfl ?_
  refine jj_iload_n C dJ1_charAt_3b067_7 rfl ?_
  refine jj_sbyt (k := 2) (v := 101) C (by decide) (vp_in_iff.mpr (by decide)) (by decide) dJ1_charAt_3b067_8 ?_
  refine jj_sipush (v := 255) C dJ1_charAt_3b067_9 (by decide) ?_
  refine jj_iand (v := 101) C dJ1_charAt_3b067_12 (by decide) ?_
  refine jj_i2c (v := 101) C dJ1_charAt_3b067_13 (by decide) ?_
  exact jj_zret C rfl ⟨rfl, rfl⟩ dJ1_charAt_3b067_14 (jj_le rfl) (jj_le rfl)

set_option maxHeartbeats 4000000 in
set_option maxRecDepth 100000 in
theorem ct_J0_charAt_5068e_14 {l : Launch} (hl : l.stackTraces = false) (D : va_G) (cA : Nat → ClassId) (ak : (Nat → Nat) × (Nat → Nat)) : jj_M l D cA ak yJ0_charAt_5068e (.code yJ0_charAt_5068e cJ0_charAt_5068e 2 (some .char)) 3 64 0 0 [] [.ref (ak.1 2), .int 4] (fun (w : va_W) (r : Option Value) => (w = [] ∧ r = some (.int 101))) jj_noX := by
  refine jj_start hl (by decide) jw_391c0f56bd (jj_le rfl) ?_
  intro p e s m args below meth c A hargs hA C hex hmn
  refine jj_aload_n C dJ0_charAt_5068e_0 rfl ?_
  refine jq_callVs (rest := []) C (ct_J0_isLatin1_aae02_3 hl D cA ak) [] [] rfl rfl (by decide) (by decide) (by decide) 2 (by decide) rfl jw_5ca960aa2e jw_b7ba7c03ae jw_c4fe6f1e08 jw_4ea6285965 jw_1aa7753999 jn_J0_isLatin1_aae02 rfl (jj_le rfl) (jj_le rfl) (jj_le rfl) (jj_le rfl) (jj_le rfl) dJ0_charAt_5068e_1 rfl (fun _ _ hX => hX.elim) (fun w1 r O_2 => ?_)
  obtain ⟨rfl, rfl⟩ := O_2
  refine jj_apd rfl ?_
  refine jj_if_eqF (tgt := 16) C dJ0_charAt_5068e_4 (by decide) (by decide) ?_
  refine jj_aload_n C dJ0_charAt_5068e_7 rfl ?_
  refine jj_sval (k := 2) C (by decide) jw_90a506b1c3 dJ0_charAt_5068e_8 ?_
  refine jj_iload_n C dJ0_charAt_5068e_11 rfl ?_
  refine jq_callS (rest := []) C (ct_J1_charAt_3b067_14 hl D cA ak) [] [] rfl rfl (by decide) (by decide) (by decide) jw_7e2463d496 jw_530d7ac64c jw_2a3a2ce6ce jw_6996a9eac3 jn_J1_charAt_3b067 rfl (jj_le rfl) (jj_le rfl) (jj_le rfl) (jj_le rfl) (jj_le rfl) dJ0_charAt_5068e_12 rfl (fun _ _ hX => hX.elim) (fun w1 r O_4 => ?_)
  obtain ⟨rfl, rfl⟩ := O_4
  refine jj_apd rfl ?_
  exact jj_zret C rfl ⟨rfl, rfl⟩ dJ0_charAt_5068e_15 (jj_le rfl) (jj_le rfl)

set_option maxHeartbeats 4000000 in
set_option maxRecDepth 100000 in
theorem ct_J3_checkIndex_8e157_29 {l : Launch} (hl : l.stackTraces = false) (D : va_G) (cA : Nat → ClassId) (ak : (Nat → Nat) × (Nat → Nat)) (h0 : Nat) : jj_M l D cA ak yJ3_checkIndex_8e157 (.code yJ3_checkIndex_8e157 cJ3_checkIndex_8e157 3 (some .int)) 0 0 0 0 [] [.int 5, .int 6, .ref h0] (fun (w : va_W) (r : Option Value) => (w = [] ∧ r = some (.int 5))) jj_noX := by
  refine jj_start hl (by decide) jw_da9869a695 (jj_le rfl) ?_
  intro p e s m args below meth c A hargs hA C hex hmn
  refine jj_iload_n C dJ3_checkIndex_8e157_0 rfl ?_
  refine jj_if_ltF (tgt := 9) C dJ3_checkIndex_8e157_1 (by decide) (by decide) ?_
  refine jj_iload_n C dJ3_checkIndex_8e157_4 rfl ?_
  refine jj_iload_n C dJ3_checkIndex_8e157_5 rfl ?_
  refine jj_icmp_ltT (tgt := 16) C dJ3_checkIndex_8e157_6 (by decide) (by decide) ?_
  refine jj_iload_n C dJ3_checkIndex_8e157_16 rfl ?_
  exact jj_iret C ⟨rfl, rfl⟩ dJ3_checkIndex_8e157_17 (jj_le rfl) (jj_le rfl)

set_option maxHeartbeats 4000000 in
set_option maxRecDepth 100000 in
theorem ct_J3_checkIndex_8e157_30 {l : Launch} (hl : l.stackTraces = false) (D : va_G) (cA : Nat → ClassId) (ak : (Nat → Nat) × (Nat → Nat)) : jj_M l D cA ak yJ3_checkIndex_8e157 (.code yJ3_checkIndex_8e157 cJ3_checkIndex_8e157 3 (some .int)) 0 0 0 0 [] [.int 5, .int 6, .null] (fun (w : va_W) (r : Option Value) => (w = [] ∧ r = some (.int 5))) jj_noX := by
  refine jj_start hl (by decide) jw_da9869a695 (jj_le rfl) ?_
  intro p e s m args below meth c A hargs hA C hex hmn
  refine jj_iload_n C dJ3_checkIndex_8e157_0 rfl ?_
  refine jj_if_ltF (tgt := 9) C dJ3_checkIndex_8e157_1 (by decide) (by decide) ?_
  refine jj_iload_n C dJ3_checkIndex_8e157_4 rfl ?_
  refine jj_iload_n C dJ3_checkIndex_8e157_5 rfl ?_
  refine jj_icmp_ltT (tgt := 16) C dJ3_checkIndex_8e157_6 (by decide) (by decide) ?_
  refine jj_iload_n C dJ3_checkIndex_8e157_16 rfl ?_
  exact jj_iret C ⟨rfl, rfl⟩ dJ3_checkIndex_8e157_17 (jj_le rfl) (jj_le rfl)

set_option maxHeartbeats 4000000 in
set_option maxRecDepth 100000 in
theorem ct_J0_checkIndex_df160_15 {l : Launch} (hl : l.stackTraces = false) (D : va_G) (cA : Nat → ClassId) (ak : (Nat → Nat) × (Nat → Nat)) : jj_M l D cA ak yJ0_checkIndex_df160 (.code yJ0_checkIndex_df160 cJ0_checkIndex_df160 2 none) 1 22 0 0 [] [.int 5, .int 6] (fun (w : va_W) (r : Option Value) => (w = [] ∧ r = none)) jj_noX := by
  refine jj_start hl (by decide) jw_73f64df4e3 (jj_le rfl) ?_
  intro p e s m args below meth c A hargs hA C hex hmn
  refine jj_iload_n C dJ0_checkIndex_df160_0 rfl ?_
  refine jj_iload_n C dJ0_checkIndex_df160_1 rfl ?_
  refine jj_gfm C jw_040150fc39 dJ0_checkIndex_df160_2 (fun t_1 => ?_) ?_
  · refine jq_callS (rest := []) C (ct_J3_checkIndex_8e157_29 hl D cA ak t_1) [] [] rfl rfl (by decide) (by decide) (by decide) jw_a7a8b385a1 jw_8d35bed6b0 jw_2c7dffdd00 jw_da9869a695 jn_J3_checkIndex_8e157 rfl (jj_le rfl) (jj_le rfl) (jj_le rfl) (jj_le rfl) (jj_le rfl) dJ0_checkIndex_df160_5 rfl (fun _ _ hX => hX.elim) (fun w1 r O_3 => ?_)
    obtain ⟨rfl, rfl⟩ := O_3
    refine jj_apd rfl ?_
    refine jj_pop C dJ0_checkIndex_df160_8 rfl ?_
    exact jj_vret C ⟨rfl, rfl⟩ dJ0_checkIndex_df160_9 (jj_le rfl) (jj_le rfl)
  · refine jq_callS (rest := []) C (ct_J3_checkIndex_8e157_30 hl D cA ak) [] [] rfl rfl (by decide) (by decide) (by decide) jw_a7a8b385a1 jw_8d35bed6b0 jw_2c7dffdd00 jw_da9869a695 jn_J3_checkIndex_8e157 rfl (jj_le rfl) (jj_le rfl) (jj_le rfl) (jj_le rfl) (jj_le rfl) dJ0_checkIndex_df160_5 rfl (fun _ _ hX => hX.elim) (fun w1 r O_5 => ?_)
    obtain ⟨rfl, rfl⟩ := O_5
    refine jj_apd rfl ?_
    refine jj_pop C dJ0_checkIndex_df160_8 rfl ?_
    exact jj_vret C ⟨rfl, rfl⟩ dJ0_checkIndex_df160_9 (jj_le rfl) (jj_le rfl)

