theorem jw_5528f553d9 : Cond.methodLink RX11 217 yX11_isAmount ∈ jj_G := jj_t7 (List.mem_of_getElem? (i := 151) (by decide +kernel)) rfl
theorem jw_8ebf3e5748 : Cond.code yX11_isAmount cX11_isAmount 1 (some .boolean) ∈ jj_G := jj_t7 (List.mem_of_getElem? (i := 153) (by decide +kernel)) rfl
theorem jw_ee60e309b3 : Cond.constantLong RX11 208 (9999999) ∈ jj_G := jj_t7 (List.mem_of_getElem? (i := 154) (by decide +kernel)) rfl
theorem jw_2fe9b26ec1 : Cond.static yX11_isAmount ∈ jj_G := jj_t7 (List.mem_of_getElem? (i := 152) (by decide +kernel)) rfl
theorem jn_X11_isAmount : jj_N yX11_isAmount 1 := by unfold jj_N; decide +kernel
theorem jw_3b6f5db06c : Cond.methodLink RX11 202 yX11_remember ∈ jj_G := jj_t7 (List.mem_of_getElem? (i := 7) (by decide +kernel)) rfl
theorem jw_215a43d218 : Cond.instanceMethod yX11_remember ∈ jj_G := jj_t7 (List.mem_of_getElem? (i := 9) (by decide +kernel)) rfl
theorem jw_543635bfa3 : Cond.selects RX11 yX11_remember yX11_remember ∈ jj_G := jj_pv (q := (yX11_remember, 25)) (by decide +kernel)
theorem jn_X11_remember : jj_N yX11_remember 0 := by unfold jj_N; decide +kernel
theorem jw_5aa504ca27 : Cond.methodLink RX11 224 yX11_ask ∈ jj_G := jj_t7 (List.mem_of_getElem? (i := 160) (by decide +kernel)) rfl
theorem jw_8305b013c0 : Cond.instanceMethod yX11_ask ∈ jj_G := jj_t7 (List.mem_of_getElem? (i := 162) (by decide +kernel)) rfl
theorem jw_b768ebc9da : Cond.selects RX11 yX11_ask yX11_ask ∈ jj_G := jj_pv (q := (yX11_ask, 25)) (by decide +kernel)
theorem jn_X11_ask : jj_N yX11_ask 4 := by unfold jj_N; decide +kernel
theorem jw_3f903e3c6c : Cond.code yX11_subscribe cX11_subscribe 3 (some .int) ∈ jj_G := jj_t7 (List.mem_of_getElem? (i := 138) (by decide +kernel)) rfl
theorem jw_f563dbedcf : Cond.methodLink RX11 231 yX11_isUnits ∈ jj_G := jj_t7 (List.mem_of_getElem? (i := 168) (by decide +kernel)) rfl
theorem jw_65c6480382 : Cond.code yX11_isUnits cX11_isUnits 1 (some .boolean) ∈ jj_G := jj_t7 (List.mem_of_getElem? (i := 170) (by decide +kernel)) rfl
theorem jw_b46227b84d : Cond.constantLong RX11 210 (99999999) ∈ jj_G := jj_t7 (List.mem_of_getElem? (i := 171) (by decide +kernel)) rfl
theorem jw_df0ae9c2de : Cond.static yX11_isUnits ∈ jj_G := jj_t7 (List.mem_of_getElem? (i := 169) (by decide +kernel)) rfl
theorem jn_X11_isUnits : jj_N yX11_isUnits 1 := by unfold jj_N; decide +kernel
theorem jw_a2621153eb : Cond.methodLink RX11 234 yX11_canRedeem ∈ jj_G := jj_t7 (List.mem_of_getElem? (i := 172) (by decide +kernel)) rfl
theorem jw_7e6b4e1834 : Cond.instanceMethod yX11_canRedeem ∈ jj_G := jj_t7 (List.mem_of_getElem? (i := 174) (by decide +kernel)) rfl
theorem jw_327fafc04d : Cond.selects RX11 yX11_canRedeem yX11_canRedeem ∈ jj_G := jj_pv (q := (yX11_canRedeem, 25)) (by decide +kernel)
theorem jn_X11_canRedeem : jj_N yX11_canRedeem 2 := by unfold jj_N; decide +kernel
theorem jw_18505130b2 : Cond.code yX11_redeem cX11_redeem 3 (some .int) ∈ jj_G := jj_t7 (List.mem_of_getElem? (i := 167) (by decide +kernel)) rfl
theorem jw_d97444851e : Cond.code yX11_withdraw cX11_withdraw 4 (some .long) ∈ jj_G := jj_t7 (List.mem_of_getElem? (i := 183) (by decide +kernel)) rfl
theorem jw_10d6ffe387 : Cond.methodLink RX11 205 yX11_dealNow ∈ jj_G := jj_t7 (List.mem_of_getElem? (i := 18) (by decide +kernel)) rfl
theorem jw_c13a582434 : Cond.instanceMethod yX11_dealNow ∈ jj_G := jj_t7 (List.mem_of_getElem? (i := 20) (by decide +kernel)) rfl
theorem jw_c2b73db722 : Cond.selects RX11 yX11_dealNow yX11_dealNow ∈ jj_G := jj_pv (q := (yX11_dealNow, 25)) (by decide +kernel)
theorem jn_X11_dealNow : jj_N yX11_dealNow 0 := by unfold jj_N; decide +kernel
theorem jw_d0f730d8b3 : Cond.code yX11_deal cX11_deal 1 (some .int) ∈ jj_G := jj_t7 (List.mem_of_getElem? (i := 6) (by decide +kernel)) rfl
theorem jw_52be377752 : Cond.methodLink RX11 251 yX11_isRate ∈ jj_G := jj_t7 (List.mem_of_getElem? (i := 192) (by decide +kernel)) rfl
theorem jw_adf3c6b06d : Cond.code yX11_isRate cX11_isRate 1 (some .boolean) ∈ jj_G := jj_t7 (List.mem_of_getElem? (i := 194) (by decide +kernel)) rfl
theorem jw_8d780741b7 : Cond.constantLong RX11 247 (-9000) ∈ jj_G := jj_t7 (List.mem_of_getElem? (i := 195) (by decide +kernel)) rfl
theorem jw_79cc7664b1 : Cond.constantLong RX11 249 (9999) ∈ jj_G := jj_t7 (List.mem_of_getElem? (i := 196) (by decide +kernel)) rfl
theorem jw_cfa2869052 : Cond.static yX11_isRate ∈ jj_G := jj_t7 (List.mem_of_getElem? (i := 193) (by decide +kernel)) rfl
theorem jn_X11_isRate : jj_N yX11_isRate 1 := by unfold jj_N; decide +kernel
theorem jw_8034c90ff2 : Cond.methodLink RX11 254 yX11_isTooMuch ∈ jj_G := jj_t7 (List.mem_of_getElem? (i := 197) (by decide +kernel)) rfl
theorem jw_6aca30fbe1 : Cond.instanceMethod yX11_isTooMuch ∈ jj_G := jj_t7 (List.mem_of_getElem? (i := 199) (by decide +kernel)) rfl
theorem jw_cc8ed5caa5 : Cond.selects RX11 yX11_isTooMuch yX11_isTooMuch ∈ jj_G := jj_pv (q := (yX11_isTooMuch, 25)) (by decide +kernel)
theorem jn_X11_isTooMuch : jj_N yX11_isTooMuch 1 := by unfold jj_N; decide +kernel
theorem jw_1b925bbf22 : Cond.methodLink RX11 257 yX11_gain ∈ jj_G := jj_t7 (List.mem_of_getElem? (i := 204) (by decide +kernel)) rfl
theorem jw_7e5865b4ef : Cond.instanceMethod yX11_gain ∈ jj_G := jj_t7 (List.mem_of_getElem? (i := 206) (by decide +kernel)) rfl
theorem jw_63e88411c2 : Cond.selects RX11 yX11_gain yX11_gain ∈ jj_G := jj_pv (q := (yX11_gain, 25)) (by decide +kernel)
theorem jn_X11_gain : jj_N yX11_gain 1 := by unfold jj_N; decide +kernel
theorem jw_addfde654f : Cond.code yX11_earn cX11_earn 2 (some .long) ∈ jj_G := jj_t7 (List.mem_of_getElem? (i := 191) (by decide +kernel)) rfl
theorem jw_80863873a1 : Cond.constantLong RX11 262 (400) ∈ jj_G := jj_t7 (List.mem_of_getElem? (i := 212) (by decide +kernel)) rfl
theorem jw_6a0cf12fa5 : Cond.methodLink RX11 264 yX11_goDays ∈ jj_G := jj_t7 (List.mem_of_getElem? (i := 213) (by decide +kernel)) rfl
theorem jw_e5eaade289 : Cond.instanceMethod yX11_goDays ∈ jj_G := jj_t7 (List.mem_of_getElem? (i := 215) (by decide +kernel)) rfl
theorem jw_28c5f3477c : Cond.selects RX11 yX11_goDays yX11_goDays ∈ jj_G := jj_pv (q := (yX11_goDays, 25)) (by decide +kernel)
theorem jn_X11_goDays : jj_N yX11_goDays 1 := by unfold jj_N; decide +kernel
theorem jw_0cf9781f39 : Cond.code yX11_passDays cX11_passDays 2 (some .long) ∈ jj_G := jj_t7 (List.mem_of_getElem? (i := 211) (by decide +kernel)) rfl
theorem jw_fc6cc84c3a : Cond.methodLink RX11 281 yX11_crystallizeAll ∈ jj_G := jj_t7 (List.mem_of_getElem? (i := 222) (by decide +kernel)) rfl
theorem jw_5814701839 : Cond.instanceMethod yX11_crystallizeAll ∈ jj_G := jj_t7 (List.mem_of_getElem? (i := 224) (by decide +kernel)) rfl
theorem jw_09f413f815 : Cond.selects RX11 yX11_crystallizeAll yX11_crystallizeAll ∈ jj_G := jj_pv (q := (yX11_crystallizeAll, 25)) (by decide +kernel)
theorem jn_X11_crystallizeAll : jj_N yX11_crystallizeAll 0 := by unfold jj_N; decide +kernel
theorem jw_96fcf17aeb : Cond.code yX11_crystallize cX11_crystallize 1 (some .long) ∈ jj_G := jj_t7 (List.mem_of_getElem? (i := 221) (by decide +kernel)) rfl
theorem jw_c2961d41c3 : Cond.methodLink RX11 287 yX11_mergeAll ∈ jj_G := jj_t8 (List.mem_of_getElem? (i := 6) (by decide +kernel)) rfl
theorem jw_cba6ce7d79 : Cond.instanceMethod yX11_mergeAll ∈ jj_G := jj_t8 (List.mem_of_getElem? (i := 8) (by decide +kernel)) rfl
theorem jw_ec77e1d55c : Cond.selects RX11 yX11_mergeAll yX11_mergeAll ∈ jj_G := jj_pv (q := (yX11_mergeAll, 25)) (by decide +kernel)
theorem jn_X11_mergeAll : jj_N yX11_mergeAll 0 := by unfold jj_N; decide +kernel
theorem jw_7222545b3c : Cond.code yX11_merge cX11_merge 1 (some .int) ∈ jj_G := jj_t8 (List.mem_of_getElem? (i := 5) (by decide +kernel)) rfl
theorem jw_aaefcbbf36 : Cond.code yX11_setGate cX11_setGate 3 (some .int) ∈ jj_G := jj_t8 (List.mem_of_getElem? (i := 33) (by decide +kernel)) rfl
theorem jw_3bfb7efbf3 : Cond.methodLink RX11 294 yX11_cannotMove ∈ jj_G := jj_t8 (List.mem_of_getElem? (i := 18) (by decide +kernel)) rfl
theorem jw_d654f57a9e : Cond.instanceMethod yX11_cannotMove ∈ jj_G := jj_t8 (List.mem_of_getElem? (i := 20) (by decide +kernel)) rfl
theorem jw_22aff8d432 : Cond.selects RX11 yX11_cannotMove yX11_cannotMove ∈ jj_G := jj_pv (q := (yX11_cannotMove, 25)) (by decide +kernel)
theorem jn_X11_cannotMove : jj_N yX11_cannotMove 2 := by unfold jj_N; decide +kernel
theorem jw_bad5393af7 : Cond.methodLink RX11 297 yX11_split ∈ jj_G := jj_t8 (List.mem_of_getElem? (i := 26) (by decide +kernel)) rfl
theorem jw_a86b5ef6ff : Cond.instanceMethod yX11_split ∈ jj_G := jj_t8 (List.mem_of_getElem? (i := 28) (by decide +kernel)) rfl
theorem jw_9571a45689 : Cond.selects RX11 yX11_split yX11_split ∈ jj_G := jj_pv (q := (yX11_split, 25)) (by decide +kernel)
theorem jn_X11_split : jj_N yX11_split 3 := by unfold jj_N; decide +kernel
theorem jw_8070232b3c : Cond.code yX11_transfer cX11_transfer 11 (some .long) ∈ jj_G := jj_t8 (List.mem_of_getElem? (i := 17) (by decide +kernel)) rfl
set_option maxHeartbeats 4000000 in
set_option maxRecDepth 100000 in
theorem ct_X11_in_s3 {l : Launch} (hl : l.stackTraces = false) (D : va_G) (cA : Nat → ClassId) (ak : (Nat → Nat) × (Nat → Nat)) (b0 : Int64) (b1 : Int64) : jj_M l D cA ak yX11_in (.code yX11_in cX11_in 6 (some .boolean)) 0 0 0 0 [] [.long b0, .long 0, .long b1] (fun (w : va_W) (r : Option Value) => (b0 < 0 ∧ w = [] ∧ r = some (.int 0)) ∨ (¬ b0 < 0 ∧ b1 < b0 ∧ w = [] ∧ r = some (.int 0)) ∨ (¬ b0 < 0 ∧ ¬ b1 < b0 ∧ w = [] ∧ r = some (.int 1))) jj_noX := by
  refine jj_start hl (by decide) jw_e07c9ada56 (jj_le rfl) ?_
  intro p e s m args below meth c A hargs hA C hex hmn
  refine jj_lload_n C dX11_in_0 rfl ?_
  refine jj_lload_n C dX11_in_1 rfl ?_
  refine jj_lcmp_lt (tgt := 17) C dX11_in_2 dX11_in_3 (by decide) (fun c_1 => ?_) (fun c_1 => ?_)
  · refine jj_iconst (v := 0) C dX11_in_17 (by decide) ?_
    exact jj_zret C rfl (Or.inl ⟨c_1, rfl, rfl⟩) dX11_in_18 (jj_le rfl) (jj_le rfl)
  · refine jj_lload_n C dX11_in_6 rfl ?_
    refine jj_lload C dX11_in_7 rfl ?_
    refine jj_lcmp_gt (tgt := 17) C dX11_in_9 dX11_in_10 (by decide) (fun c_2 => ?_) (fun c_2 => ?_)
    · refine jj_iconst (v := 0) C dX11_in_17 (by decide) ?_
      exact jj_zret C rfl (Or.inr (Or.inl ⟨c_1, c_2, rfl, rfl⟩)) dX11_in_18 (jj_le rfl) (jj_le rfl)
    · refine jj_iconst (v := 1) C dX11_in_13 (by decide) ?_
      refine jj_goto (tgt := 18) C dX11_in_14 (by decide) ?_
      exact jj_zret C rfl (Or.inr (Or.inr ⟨c_1, c_2, rfl, rfl⟩)) dX11_in_18 (jj_le rfl) (jj_le rfl)

set_option maxHeartbeats 4000000 in
set_option maxRecDepth 100000 in
theorem ct_X11_in_s4 {l : Launch} (hl : l.stackTraces = false) (D : va_G) (cA : Nat → ClassId) (ak : (Nat → Nat) × (Nat → Nat)) (b0 : Int64) : jj_M l D cA ak yX11_in (.code yX11_in cX11_in 6 (some .boolean)) 0 0 0 0 [] [.long b0, .long 1, .long 9999999] (fun (w : va_W) (r : Option Value) => (b0 < 1 ∧ w = [] ∧ r = some (.int 0)) ∨ (¬ b0 < 1 ∧ 9999999 < b0 ∧ w = [] ∧ r = some (.int 0)) ∨ (¬ b0 < 1 ∧ ¬ 9999999 < b0 ∧ w = [] ∧ r = some (.int 1))) jj_noX := by
  refine jj_start hl (by decide) jw_e07c9ada56 (jj_le rfl) ?_
  intro p e s m args below meth c A hargs hA C hex hmn
  refine jj_lload_n C dX11_in_0 rfl ?_
  refine jj_lload_n C dX11_in_1 rfl ?_
  refine jj_lcmp_lt (tgt := 17) C dX11_in_2 dX11_in_3 (by decide) (fun c_1 => ?_) (fun c_1 => ?_)
  · refine jj_iconst (v := 0) C dX11_in_17 (by decide) ?_
    exact jj_zret C rfl (Or.inl ⟨c_1, rfl, rfl⟩) dX11_in_18 (jj_le rfl) (jj_le rfl)
  · refine jj_lload_n C dX11_in_6 rfl ?_
    refine jj_lload C dX11_in_7 rfl ?_
    refine jj_lcmp_gt (tgt := 17) C dX11_in_9 dX11_in_10 (by decide) (fun c_2 => ?_) (fun c_2 => ?_)
    · refine jj_iconst (v := 0) C dX11_in_17 (by decide) ?_
      exact jj_zret C rfl (Or.inr (Or.inl ⟨c_1, c_2, rfl, rfl⟩)) dX11_in_18 (jj_le rfl) (jj_le rfl)
    · refine jj_iconst (v := 1) C dX11_in_13 (by decide) ?_
      refine jj_goto (tgt := 18) C dX11_in_14 (by decide) ?_
      exact jj_zret C rfl (Or.inr (Or.inr ⟨c_1, c_2, rfl, rfl⟩)) dX11_in_18 (jj_le rfl) (jj_le rfl)

set_option maxHeartbeats 4000000 in
set_option maxRecDepth 100000 in
theorem ct_X11_isAmount_s1 {l : Launch} (hl : l.stackTraces = false) (D : va_G) (cA : Nat → ClassId) (ak : (Nat → Nat) × (Nat → Nat)) (a0 : Int32) : jj_M l D cA ak yX11_isAmount (.code yX11_isAmount cX11_isAmount 1 (some .boolean)) 1 25 0 0 [] [.int a0] (fun (w : va_W) (r : Option Value) => (a0.toInt64 < 1 ∧ w = [] ∧ r = some (.int 0)) ∨ (¬ a0.toInt64 < 1 ∧ 9999999 < a0.toInt64 ∧ w = [] ∧ r = some (.int 0)) ∨ (¬ a0.toInt64 < 1 ∧ ¬ 9999999 < a0.toInt64 ∧ w = [] ∧ r = some (.int 1))) jj_noX := by
  refine jj_start hl (by decide) jw_8ebf3e5748 (jj_le rfl) ?_
  intro p e s m args below meth c A hargs hA C hex hmn
  refine jj_iload_n C dX11_isAmount_0 rfl ?_
  refine jj_i2l C dX11_isAmount_1 rfl ?_
  refine jj_lconst (v := 1) C dX11_isAmount_2 (by decide) ?_
  refine jj_ldc2 (v := 9999999) C dX11_isAmount_3 jw_ee60e309b3 ?_
  refine jq_callS (rest := []) C (ct_X11_in_s4 hl D cA ak a0.toInt64) [] [] rfl rfl (by decide) (by decide) (by decide) jw_2a24feddee jw_12f28ccfda jw_f96c99f44d jw_e07c9ada56 jn_X11_in rfl (jj_le rfl) (jj_le rfl) (jj_le rfl) (jj_le rfl) (jj_le rfl) dX11_isAmount_6 rfl (fun _ _ hX => hX.elim) (fun w1 r O_2 => ?_)
  rcases O_2 with ⟨c_3, rfl, rfl⟩ | ⟨c_4, c_5, rfl, rfl⟩ | ⟨c_6, c_7, rfl, rfl⟩
  · refine jj_apd rfl ?_
    exact jj_zret C rfl (Or.inl ⟨c_3, rfl, rfl⟩) dX11_isAmount_9 (jj_le rfl) (jj_le rfl)
  · refine jj_apd rfl ?_
    exact jj_zret C rfl (Or.inr (Or.inl ⟨c_4, c_5, rfl, rfl⟩)) dX11_isAmount_9 (jj_le rfl) (jj_le rfl)
  · refine jj_apd rfl ?_
    exact jj_zret C rfl (Or.inr (Or.inr ⟨c_6, c_7, rfl, rfl⟩)) dX11_isAmount_9 (jj_le rfl) (jj_le rfl)

set_option maxHeartbeats 4000000 in
set_option maxRecDepth 100000 in
theorem ct_X11_in_s5 {l : Launch} (hl : l.stackTraces = false) (D : va_G) (cA : Nat → ClassId) (ak : (Nat → Nat) × (Nat → Nat)) (b0 : Int64) : jj_M l D cA ak yX11_in (.code yX11_in cX11_in 6 (some .boolean)) 0 0 0 0 [] [.long b0, .long 1, .long 99999999] (fun (w : va_W) (r : Option Value) => (b0 < 1 ∧ w = [] ∧ r = some (.int 0)) ∨ (¬ b0 < 1 ∧ 99999999 < b0 ∧ w = [] ∧ r = some (.int 0)) ∨ (¬ b0 < 1 ∧ ¬ 99999999 < b0 ∧ w = [] ∧ r = some (.int 1))) jj_noX := by
  refine jj_start hl (by decide) jw_e07c9ada56 (jj_le rfl) ?_
  intro p e s m args below meth c A hargs hA C hex hmn
  refine jj_lload_n C dX11_in_0 rfl ?_
  refine jj_lload_n C dX11_in_1 rfl ?_
  refine jj_lcmp_lt (tgt := 17) C dX11_in_2 dX11_in_3 (by decide) (fun c_1 => ?_) (fun c_1 => ?_)
  · refine jj_iconst (v := 0) C dX11_in_17 (by decide) ?_
    exact jj_zret C rfl (Or.inl ⟨c_1, rfl, rfl⟩) dX11_in_18 (jj_le rfl) (jj_le rfl)
  · refine jj_lload_n C dX11_in_6 rfl ?_
    refine jj_lload C dX11_in_7 rfl ?_
    refine jj_lcmp_gt (tgt := 17) C dX11_in_9 dX11_in_10 (by decide) (fun c_2 => ?_) (fun c_2 => ?_)
    · refine jj_iconst (v := 0) C dX11_in_17 (by decide) ?_
      exact jj_zret C rfl (Or.inr (Or.inl ⟨c_1, c_2, rfl, rfl⟩)) dX11_in_18 (jj_le rfl) (jj_le rfl)
    · refine jj_iconst (v := 1) C dX11_in_13 (by decide) ?_
      refine jj_goto (tgt := 18) C dX11_in_14 (by decide) ?_
      exact jj_zret C rfl (Or.inr (Or.inr ⟨c_1, c_2, rfl, rfl⟩)) dX11_in_18 (jj_le rfl) (jj_le rfl)

set_option maxHeartbeats 4000000 in
set_option maxRecDepth 100000 in
theorem ct_X11_isUnits_s1 {l : Launch} (hl : l.stackTraces = false) (D : va_G) (cA : Nat → ClassId) (ak : (Nat → Nat) × (Nat → Nat)) (a0 : Int32) : jj_M l D cA ak yX11_isUnits (.code yX11_isUnits cX11_isUnits 1 (some .boolean)) 1 25 0 0 [] [.int a0] (fun (w : va_W) (r : Option Value) => (a0.toInt64 < 1 ∧ w = [] ∧ r = some (.int 0)) ∨ (¬ a0.toInt64 < 1 ∧ 99999999 < a0.toInt64 ∧ w = [] ∧ r = some (.int 0)) ∨ (¬ a0.toInt64 < 1 ∧ ¬ 99999999 < a0.toInt64 ∧ w = [] ∧ r = some (.int 1))) jj_noX := by
  refine jj_start hl (by decide) jw_65c6480382 (jj_le rfl) ?_
  intro p e s m args below meth c A hargs hA C hex hmn
  refine jj_iload_n C dX11_isUnits_0 rfl ?_
  refine jj_i2l C dX11_isUnits_1 rfl ?_
  refine jj_lconst (v := 1) C dX11_isUnits_2 (by decide) ?_
  refine jj_ldc2 (v := 99999999) C dX11_isUnits_3 jw_b46227b84d ?_
  refine jq_callS (rest := []) C (ct_X11_in_s5 hl D cA ak a0.toInt64) [] [] rfl rfl (by decide) (by decide) (by decide) jw_2a24feddee jw_12f28ccfda jw_f96c99f44d jw_e07c9ada56 jn_X11_in rfl (jj_le rfl) (jj_le rfl) (jj_le rfl) (jj_le rfl) (jj_le rfl) dX11_isUnits_6 rfl (fun _ _ hX => hX.elim) (fun w1 r O_2 => ?_)
  rcases O_2 with ⟨c_3, rfl, rfl⟩ | ⟨c_4, c_5, rfl, rfl⟩ | ⟨c_6, c_7, rfl, rfl⟩
  · refine jj_apd rfl ?_
    exact jj_zret C rfl (Or.inl ⟨c_3, rfl, rfl⟩) dX11_isUnits_9 (jj_le rfl) (jj_le rfl)
  · refine jj_apd rfl ?_
    exact jj_zret C rfl (Or.inr (Or.inl ⟨c_4, c_5, rfl, rfl⟩)) dX11_isUnits_9 (jj_le rfl) (jj_le rfl)
  · refine jj_apd rfl ?_
    exact jj_zret C rfl (Or.inr (Or.inr ⟨c_6, c_7, rfl, rfl⟩)) dX11_isUnits_9 (jj_le rfl) (jj_le rfl)

set_option maxHeartbeats 4000000 in
set_option maxRecDepth 100000 in
theorem ct_X11_in_s6 {l : Launch} (hl : l.stackTraces = false) (D : va_G) (cA : Nat → ClassId) (ak : (Nat → Nat) × (Nat → Nat)) (b0 : Int64) : jj_M l D cA ak yX11_in (.code yX11_in cX11_in 6 (some .boolean)) 0 0 0 0 [] [.long b0, .long (-9000), .long 9999] (fun (w : va_W) (r : Option Value) => (b0 < (-9000) ∧ w = [] ∧ r = some (.int 0)) ∨ (¬ b0 < (-9000) ∧ 9999 < b0 ∧ w = [] ∧ r = some (.int 0)) ∨ (¬ b0 < (-9000) ∧ ¬ 9999 < b0 ∧ w = [] ∧ r = some (.int 1))) jj_noX := by
  refine jj_start hl (by decide) jw_e07c9ada56 (jj_le rfl) ?_
  intro p e s m args below meth c A hargs hA C hex hmn
  refine jj_lload_n C dX11_in_0 rfl ?_
  refine jj_lload_n C dX11_in_1 rfl ?_
  refine jj_lcmp_lt (tgt := 17) C dX11_in_2 dX11_in_3 (by decide) (fun c_1 => ?_) (fun c_1 => ?_)
  · refine jj_iconst (v := 0) C dX11_in_17 (by decide) ?_
    exact jj_zret C rfl (Or.inl ⟨c_1, rfl, rfl⟩) dX11_in_18 (jj_le rfl) (jj_le rfl)
  · refine jj_lload_n C dX11_in_6 rfl ?_
    refine jj_lload C dX11_in_7 rfl ?_
    refine jj_lcmp_gt (tgt := 17) C dX11_in_9 dX11_in_10 (by decide) (fun c_2 => ?_) (fun c_2 => ?_)
    · refine jj_iconst (v := 0) C dX11_in_17 (by decide) ?_
      exact jj_zret C rfl (Or.inr (Or.inl ⟨c_1, c_2, rfl, rfl⟩)) dX11_in_18 (jj_le rfl) (jj_le rfl)
    · refine jj_iconst (v := 1) C dX11_in_13 (by decide) ?_
      refine jj_goto (tgt := 18) C dX11_in_14 (by decide) ?_
      exact jj_zret C rfl (Or.inr (Or.inr ⟨c_1, c_2, rfl, rfl⟩)) dX11_in_18 (jj_le rfl) (jj_le rfl)

set_option maxHeartbeats 4000000 in
set_option maxRecDepth 100000 in
theorem ct_X11_isRate_s1 {l : Launch} (hl : l.stackTraces = false) (D : va_G) (cA : Nat → ClassId) (ak : (Nat → Nat) × (Nat → Nat)) (a0 : Int32) : jj_M l D cA ak yX11_isRate (.code yX11_isRate cX11_isRate 1 (some .boolean)) 1 25 0 0 [] [.int a0] (fun (w : va_W) (r : Option Value) => (a0.toInt64 < (-9000) ∧ w = [] ∧ r = some (.int 0)) ∨ (¬ a0.toInt64 < (-9000) ∧ 9999 < a0.toInt64 ∧ w = [] ∧ r = some (.int 0)) ∨ (¬ a0.toInt64 < (-9000) ∧ ¬ 9999 < a0.toInt64 ∧ w = [] ∧ r = some (.int 1))) jj_noX := by
  refine jj_start hl (by decide) jw_adf3c6b06d (jj_le rfl) ?_
  intro p e s m args below meth c A hargs hA C hex hmn
  refine jj_iload_n C dX11_isRate_0 rfl ?_
  refine jj_i2l C dX11_isRate_1 rfl ?_
  refine jj_ldc2 (v := (-9000)) C dX11_isRate_2 jw_8d780741b7 ?_
  refine jj_ldc2 (v := 9999) C dX11_isRate_5 jw_79cc7664b1 ?_
  refine jq_callS (rest := []) C (ct_X11_in_s6 hl D cA ak a0.toInt64) [] [] rfl rfl (by decide) (by decide) (by decide) jw_2a24feddee jw_12f28ccfda jw_f96c99f44d jw_e07c9ada56 jn_X11_in rfl (jj_le rfl) (jj_le rfl) (jj_le rfl) (jj_le rfl) (jj_le rfl) dX11_isRate_8 rfl (fun _ _ hX => hX.elim) (fun w1 r O_2 => ?_)
  rcases O_2 with ⟨c_3, rfl, rfl⟩ | ⟨c_4, c_5, rfl, rfl⟩ | ⟨c_6, c_7, rfl, rfl⟩
  · refine jj_apd rfl ?_
    exact jj_zret C rfl (Or.inl ⟨c_3, rfl, rfl⟩) dX11_isRate_11 (jj_le rfl) (jj_le rfl)
  · refine jj_apd rfl ?_
    exact jj_zret C rfl (Or.inr (Or.inl ⟨c_4, c_5, rfl, rfl⟩)) dX11_isRate_11 (jj_le rfl) (jj_le rfl)
  · refine jj_apd rfl ?_
    exact jj_zret C rfl (Or.inr (Or.inr ⟨c_6, c_7, rfl, rfl⟩)) dX11_isRate_11 (jj_le rfl) (jj_le rfl)

set_option maxHeartbeats 4000000 in
set_option maxRecDepth 100000 in
theorem ct_X11_in_s7 {l : Launch} (hl : l.stackTraces = false) (D : va_G) (cA : Nat → ClassId) (ak : (Nat → Nat) × (Nat → Nat)) (b0 : Int64) : jj_M l D cA ak yX11_in (.code yX11_in cX11_in 6 (some .boolean)) 0 0 0 0 [] [.long b0, .long 1, .long 400] (fun (w : va_W) (r : Option Value) => (b0 < 1 ∧ w = [] ∧ r = some (.int 0)) ∨ (¬ b0 < 1 ∧ 400 < b0 ∧ w = [] ∧ r = some (.int 0)) ∨ (¬ b0 < 1 ∧ ¬ 400 < b0 ∧ w = [] ∧ r = some (.int 1))) jj_noX := by
  refine jj_start hl (by decide) jw_e07c9ada56 (jj_le rfl) ?_
  intro p e s m args below meth c A hargs hA C hex hmn
  refine jj_lload_n C dX11_in_0 rfl ?_
  refine jj_lload_n C dX11_in_1 rfl ?_
  refine jj_lcmp_lt (tgt := 17) C dX11_in_2 dX11_in_3 (by decide) (fun c_1 => ?_) (fun c_1 => ?_)
  · refine jj_iconst (v := 0) C dX11_in_17 (by decide) ?_
    exact jj_zret C rfl (Or.inl ⟨c_1, rfl, rfl⟩) dX11_in_18 (jj_le rfl) (jj_le rfl)
  · refine jj_lload_n C dX11_in_6 rfl ?_
    refine jj_lload C dX11_in_7 rfl ?_
    refine jj_lcmp_gt (tgt := 17) C dX11_in_9 dX11_in_10 (by decide) (fun c_2 => ?_) (fun c_2 => ?_)
    · refine jj_iconst (v := 0) C dX11_in_17 (by decide) ?_
      exact jj_zret C rfl (Or.inr (Or.inl ⟨c_1, c_2, rfl, rfl⟩)) dX11_in_18 (jj_le rfl) (jj_le rfl)
    · refine jj_iconst (v := 1) C dX11_in_13 (by decide) ?_
      refine jj_goto (tgt := 18) C dX11_in_14 (by decide) ?_
      exact jj_zret C rfl (Or.inr (Or.inr ⟨c_1, c_2, rfl, rfl⟩)) dX11_in_18 (jj_le rfl) (jj_le rfl)

set_option maxHeartbeats 4000000 in
set_option maxRecDepth 100000 in
theorem ct_X11_in_s8 {l : Launch} (hl : l.stackTraces = false) (D : va_G) (cA : Nat → ClassId) (ak : (Nat → Nat) × (Nat → Nat)) (b0 : Int64) : jj_M l D cA ak yX11_in (.code yX11_in cX11_in 6 (some .boolean)) 0 0 0 0 [] [.long b0, .long 1, .long 100] (fun (w : va_W) (r : Option Value) => (b0 < 1 ∧ w = [] ∧ r = some (.int 0)) ∨ (¬ b0 < 1 ∧ 100 < b0 ∧ w = [] ∧ r = some (.int 0)) ∨ (¬ b0 < 1 ∧ ¬ 100 < b0 ∧ w = [] ∧ r = some (.int 1))) jj_noX := by
  refine jj_start hl (by decide) jw_e07c9ada56 (jj_le rfl) ?_
  intro p e s m args below meth c A hargs hA C hex hmn
  refine jj_lload_n C dX11_in_0 rfl ?_
  refine jj_lload_n C dX11_in_1 rfl ?_
  refine jj_lcmp_lt (tgt := 17) C dX11_in_2 dX11_in_3 (by decide) (fun c_1 => ?_) (fun c_1 => ?_)
  · refine jj_iconst (v := 0) C dX11_in_17 (by decide) ?_
    exact jj_zret C rfl (Or.inl ⟨c_1, rfl, rfl⟩) dX11_in_18 (jj_le rfl) (jj_le rfl)
  · refine jj_lload_n C dX11_in_6 rfl ?_
    refine jj_lload C dX11_in_7 rfl ?_
    refine jj_lcmp_gt (tgt := 17) C dX11_in_9 dX11_in_10 (by decide) (fun c_2 => ?_) (fun c_2 => ?_)
    · refine jj_iconst (v := 0) C dX11_in_17 (by decide) ?_
      exact jj_zret C rfl (Or.inr (Or.inl ⟨c_1, c_2, rfl, rfl⟩)) dX11_in_18 (jj_le rfl) (jj_le rfl)
    · refine jj_iconst (v := 1) C dX11_in_13 (by decide) ?_
      refine jj_goto (tgt := 18) C dX11_in_14 (by decide) ?_
      exact jj_zret C rfl (Or.inr (Or.inr ⟨c_1, c_2, rfl, rfl⟩)) dX11_in_18 (jj_le rfl) (jj_le rfl)

set_option maxHeartbeats 4000000 in
set_option maxRecDepth 100000 in
theorem rc_X11_fails_9d5c93 {l : Launch} (hl : l.stackTraces = false) (D : va_G) (cA : Nat → ClassId) (ak : (Nat → Nat) × (Nat → Nat)) {Kd : Nat → Nat} {h0 aw aa at0 ai af ap : Nat} (hk0 : Kd h0 = 1) (hkw : Kd aw = 2) (hka : Kd aa = 3) (hkt : Kd at0 = 4) (hki : Kd ai = 5) (hkf : Kd af = 6) (hkp : Kd ap = 7) {pl0 : va_W} (hok : tt_ok rt_tk cA Kd pl0) (hm : rl_m pl0 h0 aw aa at0 ai af ap) : jj_M l D cA ak yX11_fails (.code yX11_fails cX11_fails 3 (some .boolean)) 0 0 0 0 ([] ++ pl0) [.ref h0, .int 0, .int 3] (tt_O (fun rx pl1 r => rx = [] ∧ tt_ok rt_tk cA Kd pl1 ∧ tt_fr Kd [(1, 7)] pl0 pl1 ∧ tt_fa Kd [] pl0 pl1 ∧ ((r = some (.int 0))))) (tt_OX (fun _ _ _ => False)) := by
  refine jj_start hl (by decide) jw_a520512e18 (jj_le rfl) ?_
  intro p e s m args below meth c A hargs hA C hex hmn
  have hfr := tt_fr.refl (K := Kd) (WS := [(1, 7)]) pl0
  have hfa := tt_fa.refl (K := Kd) (WA := []) pl0
  refine jj_aload_n C dX11_fails_0 rfl ?_
  refine jj_iload_n C dX11_fails_1 rfl ?_
  refine jj_if_eqT (tgt := 9) C dX11_fails_2 (by decide) (by decide) ?_
  refine jj_iconst (v := 0) C dX11_fails_9 (by decide) ?_
  refine rl_put C hok jk_12 7 (by decide) jw_0a65e3738e (t := (0, (-2147483648), 2147483647)) hk0 (by decide) rfl rfl rfl (tt_ia (0 : Int32)) rfl rfl dX11_fails_10 (fun pl_1 hok_2 tr hn tl => ?_)
  have hf_3 := hn
  replace hm := hm.put tr (by decide)
  replace hfr := hfr.put hk0 tr (by decide)
  replace hfa := hfa.all tl
  refine jj_iload_n C dX11_fails_13 rfl ?_
  exact jj_zret C rfl ⟨[], pl_1, rfl, rfl, hok_2, hfr, hfa, rfl⟩ dX11_fails_14 (jj_le rfl) (jj_le rfl)

set_option maxHeartbeats 4000000 in
set_option maxRecDepth 100000 in
theorem rc_X11_fails_31621d {l : Launch} (hl : l.stackTraces = false) (D : va_G) (cA : Nat → ClassId) (ak : (Nat → Nat) × (Nat → Nat)) {Kd : Nat → Nat} {h0 aw aa at0 ai af ap : Nat} (hk0 : Kd h0 = 1) (hkw : Kd aw = 2) (hka : Kd aa = 3) (hkt : Kd at0 = 4) (hki : Kd ai = 5) (hkf : Kd af = 6) (hkp : Kd ap = 7) {pl0 : va_W} (hok : tt_ok rt_tk cA Kd pl0) (hm : rl_m pl0 h0 aw aa at0 ai af ap) : jj_M l D cA ak yX11_fails (.code yX11_fails cX11_fails 3 (some .boolean)) 0 0 0 0 ([] ++ pl0) [.ref h0, .int 1, .int 3] (tt_O (fun rx pl1 r => rx = [] ∧ tt_ok rt_tk cA Kd pl1 ∧ tt_fr Kd [(1, 7)] pl0 pl1 ∧ tt_fa Kd [] pl0 pl1 ∧ ((r = some (.int 1))))) (tt_OX (fun _ _ _ => False)) := by
  refine jj_start hl (by decide) jw_a520512e18 (jj_le rfl) ?_
  intro p e s m args below meth c A hargs hA C hex hmn
  have hfr := tt_fr.refl (K := Kd) (WS := [(1, 7)]) pl0
  have hfa := tt_fa.refl (K := Kd) (WA := []) pl0
  refine jj_aload_n C dX11_fails_0 rfl ?_
  refine jj_iload_n C dX11_fails_1 rfl ?_
  refine jj_if_eqF (tgt := 9) C dX11_fails_2 (by decide) (by decide) ?_
  refine jj_iload_n C dX11_fails_5 rfl ?_
  refine jj_goto (tgt := 10) C dX11_fails_6 (by decide) ?_
  refine rl_put C hok jk_12 7 (by decide) jw_0a65e3738e (t := (0, (-2147483648), 2147483647)) hk0 (by decide) rfl rfl rfl (tt_ia (3 : Int32)) rfl rfl dX11_fails_10 (fun pl_1 hok_2 tr hn tl => ?_)
  have hf_3 := hn
  replace hm := hm.put tr (by decide)
  replace hfr := hfr.put hk0 tr (by decide)
  replace hfa := hfa.all tl
  refine jj_iload_n C dX11_fails_13 rfl ?_
  exact jj_zret C rfl ⟨[], pl_1, rfl, rfl, hok_2, hfr, hfa, rfl⟩ dX11_fails_14 (jj_le rfl) (jj_le rfl)

set_option maxHeartbeats 4000000 in
set_option maxRecDepth 100000 in
theorem rs_isFull {l : Launch} (hl : l.stackTraces = false) (D : va_G) (cA : Nat → ClassId) (ak : (Nat → Nat) × (Nat → Nat)) {Kd : Nat → Nat} {h0 aw aa at0 ai af ap : Nat} (f : Nat → Int64) (hk0 : Kd h0 = 1) (hkw : Kd aw = 2) (hka : Kd aa = 3) (hkt : Kd at0 = 4) (hki : Kd ai = 5) (hkf : Kd af = 6) (hkp : Kd ap = 7) (hH : rl_h f) {pl0 : va_W} (hok : tt_ok rt_tk cA Kd pl0) (hm : rl_m pl0 h0 aw aa at0 ai af ap) (hC : tt_lc pl0 aw f) : jj_M l D cA ak yX11_isFull (.code yX11_isFull cX11_isFull 1 (some .boolean)) 0 0 0 0 ([] ++ pl0) [.ref h0] (tt_O (fun rx pl1 r => rx = [] ∧ tt_ok rt_tk cA Kd pl1 ∧ tt_fr Kd [] pl0 pl1 ∧ tt_fa Kd [] pl0 pl1 ∧ (((f 8).toInt < 12 ∧ r = some (.int 0)) ∨ ((f 8).toInt = 12 ∧ r = some (.int 1))))) (tt_OX (fun _ _ _ => False)) := by
  refine jj_start hl (by decide) jw_6b82d6ccbb (jj_le rfl) ?_
  intro p e s m args below meth c A hargs hA C hex hmn
  have hfr := tt_fr.refl (K := Kd) (WS := []) pl0
  have hfa := tt_fa.refl (K := Kd) (WA := []) pl0
  obtain ⟨⟨g0a, g0b⟩, ⟨g1a, g1b⟩, ⟨g6a, g6b⟩, ⟨g7a, g7b⟩, ⟨g8a, g8b⟩⟩ := hH
  refine jj_aload_n C dX11_isFull_0 rfl ?_
  refine tt_getF C hok jk_12 0 (by decide) jw_34eaf3ba8b (t := (2, 2, 0)) hk0 (by decide) rfl rfl hm.1 dX11_isFull_1 ?_
  refine jj_bipush (v := 8) C dX11_isFull_4 (by decide) ?_
  refine rl_lald C hok (t := (1, (-9223372036854775808), 9223372036854775807)) hkw (by decide) rfl (k := 8) (v := (f 8)) (vp_in_iff.mpr (by decide)) hC (by decide) rfl dX11_isFull_6 ?_
  refine jj_ldc2 (v := 12) C dX11_isFull_7 jw_f3ff61ad3e ?_
  refine jj_lcmp_ne (tgt := 18) C dX11_isFull_10 dX11_isFull_11 (by decide) (fun c_1 => ?_) (fun c_1 => ?_)
  · have z_c_1 := jc_neqL (a := (f 8).toInt) (b := 12) c_1 rfl (by decide)
    refine jj_iconst (v := 0) C dX11_isFull_18 (by decide) ?_
    exact jj_zret C rfl ⟨[], pl0, rfl, rfl, hok, hfr, hfa, (Or.inl ⟨(by omega), rfl⟩)⟩ dX11_isFull_19 (jj_le rfl) (jj_le rfl)
  · have z_c_1 := jc_eqL (a := (f 8).toInt) (b := 12) c_1 rfl (by decide)
    refine jj_iconst (v := 1) C dX11_isFull_14 (by decide) ?_
    refine jj_goto (tgt := 19) C dX11_isFull_15 (by decide) ?_
    exact jj_zret C rfl ⟨[], pl0, rfl, rfl, hok, hfr, hfa, (Or.inr ⟨(by omega), rfl⟩)⟩ dX11_isFull_19 (jj_le rfl) (jj_le rfl)

set_option maxHeartbeats 4000000 in
set_option maxRecDepth 100000 in
theorem rs_canRedeem {l : Launch} (hl : l.stackTraces = false) (D : va_G) (cA : Nat → ClassId) (ak : (Nat → Nat) × (Nat → Nat)) {Kd : Nat → Nat} {h0 aw aa at0 ai af ap : Nat} (p1 p2 : Int32) (f : Nat → Int64) (hk0 : Kd h0 = 1) (hkw : Kd aw = 2) (hka : Kd aa = 3) (hkt : Kd at0 = 4) (hki : Kd ai = 5) (hkf : Kd af = 6) (hkp : Kd ap = 7) (hH : rl_h f) {pl0 : va_W} (hok : tt_ok rt_tk cA Kd pl0) (hm : rl_m pl0 h0 aw aa at0 ai af ap) (hC : tt_lc pl0 aw f) : jj_M l D cA ak yX11_canRedeem (.code yX11_canRedeem cX11_canRedeem 3 (some .boolean)) 3 65 0 0 ([] ++ pl0) [.ref h0, .int p1, .int p2] (tt_O (fun rx pl1 r => rx = [] ∧ tt_ok rt_tk cA Kd pl1 ∧ tt_fr Kd [] pl0 pl1 ∧ tt_fa Kd [] pl0 pl1 ∧ ((r = some (.int 0)) ∨ ((f 8).toInt < 12 ∧ r = some (.int 1))))) (tt_OX (fun _ _ _ => False)) := by
  refine jj_start hl (by decide) jw_e82ca6f874 (jj_le rfl) ?_
  intro p e s m args below meth c A hargs hA C hex hmn
  have hfr := tt_fr.refl (K := Kd) (WS := []) pl0
  have hfa := tt_fa.refl (K := Kd) (WA := []) pl0
  obtain ⟨⟨g0a, g0b⟩, ⟨g1a, g1b⟩, ⟨g6a, g6b⟩, ⟨g7a, g7b⟩, ⟨g8a, g8b⟩⟩ := hH
  have lp1 := tt_lo p1
  have up1 := tt_hi p1
  have lp2 := tt_lo p2
  have up2 := tt_hi p2
  refine jj_aload_n C dX11_canRedeem_0 rfl ?_
  obtain ⟨qc, gs, hqc⟩ := tt_recv (cx := []) hok hk0 (by decide) rfl
  refine tt_callV (rest := []) C (rs_isFull hl D cA ak f hk0 hkw hka hkt hki hkf hkp ⟨⟨g0a, g0b⟩, ⟨g1a, g1b⟩, ⟨g6a, g6b⟩, ⟨g7a, g7b⟩, ⟨g8a, g8b⟩⟩ hok hm hC) [] [] rfl rfl (by decide) (by decide) (by decide) qc hqc rfl rfl jw_295437ea71 jw_d3b21ae075 jw_9b870e1ec6 jw_f96c99f44d jw_6b82d6ccbb jn_X11_isFull rfl (jj_le rfl) (jj_le rfl) (jj_le rfl) (jj_le rfl) (jj_le rfl) dX11_canRedeem_1 rfl (fun _ _ _ hX => hX.elim) (fun rx pl_1 r O_5 => ?_)
  obtain ⟨rfl, hok_2, hr_3, ha_4, hR_6⟩ := O_5
  replace hC := ha_4.at hkw (by decide) (by decide) hC
  replace hm := hm.fr hr_3 hk0 rfl
  replace hfr := hfr.trans (hr_3.sub (by decide))
  replace hfa := hfa.trans (ha_4.sub (by decide))
  rcases hR_6 with ⟨hz_7, rfl⟩ | ⟨hz_8, rfl⟩
  · refine jj_if_neF (tgt := 28) C dX11_canRedeem_4 (by decide) (by decide) ?_
    refine jj_aload_n C dX11_canRedeem_7 rfl ?_
    refine jj_iload_n C dX11_canRedeem_8 rfl ?_
    obtain ⟨qc, gs, hqc⟩ := tt_recv (cx := []) hok_2 hk0 (by decide) rfl
    refine tt_callV (rest := []) C (rc_X11_waitingOf_d8d95c hl D cA ak p1 _ hk0 hkw hka hkt hki hkf hkp ⟨⟨g0a, g0b⟩, ⟨g1a, g1b⟩, ⟨g6a, g6b⟩, ⟨g7a, g7b⟩, ⟨g8a, g8b⟩⟩ hok_2 hm hC) [] [] rfl rfl (by decide) (by decide) (by decide) qc hqc rfl rfl jw_71a89613c3 jw_6ea26eaaba jw_a8d4f4f87c jw_f96c99f44d jw_afcf941469 jn_X11_waitingOf rfl (jj_le rfl) (jj_le rfl) (jj_le rfl) (jj_le rfl) (jj_le rfl) dX11_canRedeem_9 rfl (fun _ _ _ hX => hX.elim) (fun rx pl_9 r O_13 => ?_)
    obtain ⟨rfl, hok_10, hr_11, ha_12, hR_14⟩ := O_13
    replace hC := ha_12.at hkw (by decide) (by decide) hC
    replace hm := hm.fr hr_11 hk0 rfl
    replace hfr := hfr.trans (hr_11.sub (by decide))
    replace hfa := hfa.trans (ha_12.sub (by decide))
    obtain ⟨y_15, rfl⟩ := hR_14
    refine jj_iload_n C dX11_canRedeem_12 rfl ?_
    obtain ⟨y_16, ey_16, vy_16⟩ := tt_i2l p2
    refine jj_i2l (v := y_16) C dX11_canRedeem_13 ey_16 ?_
    obtain ⟨y_17, ey_17⟩ : ∃ z : Int64, y_15 + y_16 = z := ⟨_, rfl⟩
    refine jj_ladd (v := y_17) C dX11_canRedeem_14 ey_17 ?_
    refine jj_aload_n C dX11_canRedeem_15 rfl ?_
    refine jj_iload_n C dX11_canRedeem_16 rfl ?_
    obtain ⟨qc, gs, hqc⟩ := tt_recv (cx := []) hok_10 hk0 (by decide) rfl
    refine tt_callV (rest := [.long y_17]) C (rc_X11_unitsBy_d8d95c hl D cA ak p1 _ hk0 hkw hka hkt hki hkf hkp ⟨⟨g0a, g0b⟩, ⟨g1a, g1b⟩, ⟨g6a, g6b⟩, ⟨g7a, g7b⟩, ⟨g8a, g8b⟩⟩ hok_10 hm hC) [] [] rfl rfl (by decide) (by decide) (by decide) qc hqc rfl rfl jw_d258851c0a jw_53672f19d9 jw_faff4a546a jw_f96c99f44d jw_6f23c3bc30 jn_X11_unitsBy rfl (jj_le rfl) (jj_le rfl) (jj_le rfl) (jj_le rfl) (jj_le rfl) dX11_canRedeem_17 rfl (fun _ _ _ hX => hX.elim) (fun rx pl_18 r O_22 => ?_)
    obtain ⟨rfl, hok_19, hr_20, ha_21, hR_23⟩ := O_22
    replace hC := ha_21.at hkw (by decide) (by decide) hC
    replace hm := hm.fr hr_20 hk0 rfl
    replace hfr := hfr.trans (hr_20.sub (by decide))
    replace hfa := hfa.trans (ha_21.sub (by decide))
    obtain ⟨y_24, rfl⟩ := hR_23
    refine jj_lcmp_gt (tgt := 28) C dX11_canRedeem_20 dX11_canRedeem_21 (by decide) (fun c_25 => ?_) (fun c_25 => ?_)
    · have z_c_25 := jc_ltL (a := y_24.toInt) (b := y_17.toInt) c_25 rfl rfl
      refine jj_iconst (v := 0) C dX11_canRedeem_28 (by decide) ?_
      exact jj_zret C rfl ⟨[], pl_18, rfl, rfl, hok_19, hfr, hfa, (Or.inl rfl)⟩ dX11_canRedeem_29 (jj_le rfl) (jj_le rfl)
    · have z_c_25 := jc_nltL (a := y_24.toInt) (b := y_17.toInt) c_25 rfl rfl
      refine jj_iconst (v := 1) C dX11_canRedeem_24 (by decide) ?_
      refine jj_goto (tgt := 29) C dX11_canRedeem_25 (by decide) ?_
      exact jj_zret C rfl ⟨[], pl_18, rfl, rfl, hok_19, hfr, hfa, (Or.inr ⟨(by omega), rfl⟩)⟩ dX11_canRedeem_29 (jj_le rfl) (jj_le rfl)
  · refine jj_if_neT (tgt := 28) C dX11_canRedeem_4 (by decide) (by decide) ?_
    refine jj_iconst (v := 0) C dX11_canRedeem_28 (by decide) ?_
    exact jj_zret C rfl ⟨[], pl_1, rfl, rfl, hok_2, hfr, hfa, (Or.inl rfl)⟩ dX11_canRedeem_29 (jj_le rfl) (jj_le rfl)

set_option maxHeartbeats 4000000 in
set_option maxRecDepth 100000 in
theorem rs_isNoRequest {l : Launch} (hl : l.stackTraces = false) (D : va_G) (cA : Nat → ClassId) (ak : (Nat → Nat) × (Nat → Nat)) {Kd : Nat → Nat} {h0 aw aa at0 ai af ap : Nat} (p1 : Int32) (f : Nat → Int64) (hk0 : Kd h0 = 1) (hkw : Kd aw = 2) (hka : Kd aa = 3) (hkt : Kd at0 = 4) (hki : Kd ai = 5) (hkf : Kd af = 6) (hkp : Kd ap = 7) (hH : rl_h f) {pl0 : va_W} (hok : tt_ok rt_tk cA Kd pl0) (hm : rl_m pl0 h0 aw aa at0 ai af ap) (hC : tt_lc pl0 aw f) : jj_M l D cA ak yX11_isNoRequest (.code yX11_isNoRequest cX11_isNoRequest 2 (some .boolean)) 1 25 0 0 ([] ++ pl0) [.ref h0, .int p1] (tt_O (fun rx pl1 r => rx = [] ∧ tt_ok rt_tk cA Kd pl1 ∧ tt_fr Kd [(1, 7)] pl0 pl1 ∧ tt_fa Kd [] pl0 pl1 ∧ ((r = some (.int 1)) ∨ ((0 ≤ p1.toInt ∧ p1.toInt < (f 8).toInt) ∧ r = some (.int 0))))) (tt_OX (fun _ _ _ => False)) := by
  refine jj_start hl (by decide) jw_c6d824393d (jj_le rfl) ?_
  intro p e s m args below meth c A hargs hA C hex hmn
  have hfr := tt_fr.refl (K := Kd) (WS := [(1, 7)]) pl0
  have hfa := tt_fa.refl (K := Kd) (WA := []) pl0
  obtain ⟨⟨g0a, g0b⟩, ⟨g1a, g1b⟩, ⟨g6a, g6b⟩, ⟨g7a, g7b⟩, ⟨g8a, g8b⟩⟩ := hH
  have lp1 := tt_lo p1
  have up1 := tt_hi p1
  refine jj_aload_n C dX11_isNoRequest_0 rfl ?_
  refine jj_iload_n C dX11_isNoRequest_1 rfl ?_
  obtain ⟨y_1, ey_1, vy_1⟩ := tt_i2l p1
  refine jj_i2l (v := y_1) C dX11_isNoRequest_2 ey_1 ?_
  refine jj_lconst (v := 0) C dX11_isNoRequest_3 (by decide) ?_
  refine jj_aload_n C dX11_isNoRequest_4 rfl ?_
  refine tt_getF C hok jk_12 0 (by decide) jw_34eaf3ba8b (t := (2, 2, 0)) hk0 (by decide) rfl rfl hm.1 dX11_isNoRequest_5 ?_
  refine jj_bipush (v := 8) C dX11_isNoRequest_8 (by decide) ?_
  refine rl_lald C hok (t := (1, (-9223372036854775808), 9223372036854775807)) hkw (by decide) rfl (k := 8) (v := (f 8)) (vp_in_iff.mpr (by decide)) hC (by decide) rfl dX11_isNoRequest_10 ?_
  refine jj_lconst (v := 1) C dX11_isNoRequest_11 (by decide) ?_
  obtain ⟨y_2, ey_2, vy_2⟩ := tt_lsub (x := (f 8)) (y := (1 : Int64)) (a := (f 8).toInt) rfl (b := 1) (by decide) (by omega) (by omega)
  refine jj_lsub (v := y_2) C dX11_isNoRequest_12 ey_2 ?_
  refine tt_call0S (rest := [.ref h0]) C (ct_X11_in_s3 hl D cA ak y_1 y_2) jw_2a24feddee jw_12f28ccfda jw_f96c99f44d jw_e07c9ada56 jn_X11_in rfl (jj_le rfl) (jj_le rfl) (jj_le rfl) (jj_le rfl) (jj_le rfl) dX11_isNoRequest_13 rfl (fun w1 r O_3 => ?_)
  rcases O_3 with ⟨c_4, -, rfl⟩ | ⟨c_5, c_6, -, rfl⟩ | ⟨c_7, c_8, -, rfl⟩
  · have z_c_4 := jc_ltL (a := y_1.toInt) (b := 0) c_4 rfl (by decide)
    refine jj_if_neF (tgt := 23) C dX11_isNoRequest_16 (by decide) (by decide) ?_
    refine jj_iconst (v := 1) C dX11_isNoRequest_19 (by decide) ?_
    refine jj_goto (tgt := 24) C dX11_isNoRequest_20 (by decide) ?_
    refine jj_iconst (v := 1) C dX11_isNoRequest_24 (by decide) ?_
    obtain ⟨qc, gs, hqc⟩ := tt_recv (cx := []) hok hk0 (by decide) rfl
    refine tt_callV (rest := []) C (rc_X11_fails_f00e4f hl D cA ak hk0 hkw hka hkt hki hkf hkp hok hm) [] [] rfl rfl (by decide) (by decide) (by decide) qc hqc rfl rfl jw_9c28fd2e32 jw_193b10eb43 jw_69bbe80566 jw_f96c99f44d jw_a520512e18 jn_X11_fails rfl (jj_le rfl) (jj_le rfl) (jj_le rfl) (jj_le rfl) (jj_le rfl) dX11_isNoRequest_25 rfl (fun _ _ _ hX => hX.elim) (fun rx pl_9 r O_13 => ?_)
    obtain ⟨rfl, hok_10, hr_11, ha_12, hR_14⟩ := O_13
    replace hC := ha_12.at hkw (by decide) (by decide) hC
    replace hm := hm.fr hr_11 hk0 rfl
    replace hfr := hfr.trans (hr_11.sub (by decide))
    replace hfa := hfa.trans (ha_12.sub (by decide))
    obtain rfl := hR_14
    exact jj_zret C rfl ⟨[], pl_9, rfl, rfl, hok_10, hfr, hfa, (Or.inl rfl)⟩ dX11_isNoRequest_28 (jj_le rfl) (jj_le rfl)
  · have z_c_5 := jc_nltL (a := y_1.toInt) (b := 0) c_5 rfl (by decide)
    have z_c_6 := jc_ltL (a := y_2.toInt) (b := y_1.toInt) c_6 rfl rfl
    refine jj_if_neF (tgt := 23) C dX11_isNoRequest_16 (by decide) (by decide) ?_
    refine jj_iconst (v := 1) C dX11_isNoRequest_19 (by decide) ?_
    refine jj_goto (tgt := 24) C dX11_isNoRequest_20 (by decide) ?_
    refine jj_iconst (v := 1) C dX11_isNoRequest_24 (by decide) ?_
    obtain ⟨qc, gs, hqc⟩ := tt_recv (cx := []) hok hk0 (by decide) rfl
    refine tt_callV (rest := []) C (rc_X11_fails_f00e4f hl D cA ak hk0 hkw hka hkt hki hkf hkp hok hm) [] [] rfl rfl (by decide) (by decide) (by decide) qc hqc rfl rfl jw_9c28fd2e32 jw_193b10eb43 jw_69bbe80566 jw_f96c99f44d jw_a520512e18 jn_X11_fails rfl (jj_le rfl) (jj_le rfl) (jj_le rfl) (jj_le rfl) (jj_le rfl) dX11_isNoRequest_25 rfl (fun _ _ _ hX => hX.elim) (fun rx pl_15 r O_19 => ?_)
    obtain ⟨rfl, hok_16, hr_17, ha_18, hR_20⟩ := O_19
    replace hC := ha_18.at hkw (by decide) (by decide) hC
    replace hm := hm.fr hr_17 hk0 rfl
    replace hfr := hfr.trans (hr_17.sub (by decide))
    replace hfa := hfa.trans (ha_18.sub (by decide))
    obtain rfl := hR_20
    exact jj_zret C rfl ⟨[], pl_15, rfl, rfl, hok_16, hfr, hfa, (Or.inl rfl)⟩ dX11_isNoRequest_28 (jj_le rfl) (jj_le rfl)
  · have z_c_7 := jc_nltL (a := y_1.toInt) (b := 0) c_7 rfl (by decide)
    have z_c_8 := jc_nltL (a := y_2.toInt) (b := y_1.toInt) c_8 rfl rfl
    refine jj_if_neT (tgt := 23) C dX11_isNoRequest_16 (by decide) (by decide) ?_
    refine jj_iconst (v := 0) C dX11_isNoRequest_23 (by decide) ?_
    refine jj_iconst (v := 1) C dX11_isNoRequest_24 (by decide) ?_
    obtain ⟨qc, gs, hqc⟩ := tt_recv (cx := []) hok hk0 (by decide) rfl
    refine tt_callV (rest := []) C (rc_X11_fails_8f9520 hl D cA ak hk0 hkw hka hkt hki hkf hkp hok hm) [] [] rfl rfl (by decide) (by decide) (by decide) qc hqc rfl rfl jw_9c28fd2e32 jw_193b10eb43 jw_69bbe80566 jw_f96c99f44d jw_a520512e18 jn_X11_fails rfl (jj_le rfl) (jj_le rfl) (jj_le rfl) (jj_le rfl) (jj_le rfl) dX11_isNoRequest_25 rfl (fun _ _ _ hX => hX.elim) (fun rx pl_21 r O_25 => ?_)
    obtain ⟨rfl, hok_22, hr_23, ha_24, hR_26⟩ := O_25
    replace hC := ha_24.at hkw (by decide) (by decide) hC
    replace hm := hm.fr hr_23 hk0 rfl
    replace hfr := hfr.trans (hr_23.sub (by decide))
    replace hfa := hfa.trans (ha_24.sub (by decide))
    obtain rfl := hR_26
    exact jj_zret C rfl ⟨[], pl_21, rfl, rfl, hok_22, hfr, hfa, (Or.inr ⟨(by omega), rfl⟩)⟩ dX11_isNoRequest_28 (jj_le rfl) (jj_le rfl)

set_option maxHeartbeats 4000000 in
set_option maxRecDepth 100000 in
theorem rs_subscribe {l : Launch} (hl : l.stackTraces = false) (D : va_G) (cA : Nat → ClassId) (ak : (Nat → Nat) × (Nat → Nat)) {Kd : Nat → Nat} {h0 aw aa at0 ai af ap : Nat} (n6 : Nat) (p1 : Int32) (p2 : Int32) (B C9 : Int) (f P : Nat → Int64) (hk0 : Kd h0 = 1) (hkw : Kd aw = 2) (hka : Kd aa = 3) (hkt : Kd at0 = 4) (hki : Kd ai = 5) (hkf : Kd af = 6) (hkp : Kd ap = 7) (ln6 : (0 : Int) ≤ (n6 : Int)) (un6 : (n6 : Int) ≤ 10) (hK : rl_K B C9 f) (hHP : rl_HP B C9 P n6) (hB5 : B ≤ 43520000000) (hB0 : 12760000000 ≤ B) (hC9 : 0 ≤ C9 ∧ C9 ≤ 4000000000000000000) {pl0 : va_W} (hok : tt_ok rt_tk cA Kd pl0) (hm : rl_m pl0 h0 aw aa at0 ai af ap) (hC : tt_lc pl0 aw f) (hCp : tt_lc pl0 ap P) (hs6 : tt_at pl0 h0 6 (.int (nI n6))) : jj_M l D cA ak yX11_subscribe (.code yX11_subscribe cX11_subscribe 3 (some .int)) 3 67 0 0 ([] ++ pl0) [.ref h0, .int p1, .int p2] (tt_O (fun rx pl1 r => rx = [] ∧ tt_ok rt_tk cA Kd pl1 ∧ tt_fr Kd [(1, 6), (1, 7)] pl0 pl1 ∧ tt_fa Kd [2, 3, 7] pl0 pl1 ∧ ((rl_M (B + 30000000) (C9 + 2000) pl1 h0 aw ap ∧ ∃ v : Int32, r = some (.int v))))) (tt_OX (fun _ _ _ => False)) := by
  refine jj_start hl (by decide) jw_3f903e3c6c (jj_le rfl) ?_
  intro p e s m args below meth c A hargs hA C hex hmn
  have hfr := tt_fr.refl (K := Kd) (WS := [(1, 6), (1, 7)]) pl0
  have hfa := tt_fa.refl (K := Kd) (WA := [2, 3, 7]) pl0
  have hI := hK.1
  have hP := hK.2.1
  have hH := hI.1.1
  obtain ⟨⟨g0a, g0b⟩, ⟨g1a, g1b⟩, ⟨g6a, g6b⟩, ⟨g7a, g7b⟩, ⟨g8a, g8b⟩⟩ := hH
  have hB : B ≤ 43920000000 := by omega
  have hB6 : B + 360000000 ≤ 43920000000 := by omega
  have h9a := hK.2.2.1
  have h9b := hK.2.2.2
  have h9 : 0 ≤ (f 9).toInt ∧ (f 9).toInt < 4611686018427387000 := ⟨h9a, by omega⟩
  have lp1 := tt_lo p1
  have up1 := tt_hi p1
  have lp2 := tt_lo p2
  have up2 := tt_hi p2
  refine jj_aload_n C dX11_subscribe_0 rfl ?_
  refine jj_iload_n C dX11_subscribe_1 rfl ?_
  obtain ⟨qc, gs, hqc⟩ := tt_recv (cx := []) hok hk0 (by decide) rfl
  refine tt_callV (rest := []) C (rc_X11_isNoInvestor_d8d95c hl D cA ak p1 _ hk0 hkw hka hkt hki hkf hkp ⟨⟨g0a, g0b⟩, ⟨g1a, g1b⟩, ⟨g6a, g6b⟩, ⟨g7a, g7b⟩, ⟨g8a, g8b⟩⟩ hok hm hC) [] [] rfl rfl (by decide) (by decide) (by decide) qc hqc rfl rfl jw_daecd531da jw_4e28b3e206 jw_f3a40b16e4 jw_f96c99f44d jw_78c857bdda jn_X11_isNoInvestor rfl (jj_le rfl) (jj_le rfl) (jj_le rfl) (jj_le rfl) (jj_le rfl) dX11_subscribe_2 rfl (fun _ _ _ hX => hX.elim) (fun rx pl_1 r O_5 => ?_)
  obtain ⟨rfl, hok_2, hr_3, ha_4, hR_6⟩ := O_5
  replace hs6 := hr_3.at hk0 (by decide) (by decide) hs6
  replace hC := ha_4.at hkw (by decide) (by decide) hC
  replace hCp := ha_4.at hkp (by decide) (by decide) hCp
  replace hm := hm.fr hr_3 hk0 rfl
  replace hfr := hfr.trans (hr_3.sub (by decide))
  replace hfa := hfa.trans (ha_4.sub (by decide))
  rcases hR_6 with rfl | ⟨l_7, u_8, rfl⟩
  · refine jj_if_neT (tgt := 40) C dX11_subscribe_5 (by decide) (by decide) ?_
    refine jj_iconst (v := 0) C dX11_subscribe_40 (by decide) ?_
    exact jj_iret C ⟨[], pl_1, rfl, rfl, hok_2, hfr, hfa, ⟨⟨_, _, n6, hC, hCp, hs6, (by omega), (hK.mono (by omega) (by omega)), hHP.mono (by omega) (by omega)⟩, (0 : Int32), rfl⟩⟩ dX11_subscribe_41 (jj_le rfl) (jj_le rfl)
  · refine jj_if_neF (tgt := 40) C dX11_subscribe_5 (by decide) (by decide) ?_
    refine jj_aload_n C dX11_subscribe_8 rfl ?_
    refine jj_iload_n C dX11_subscribe_9 rfl ?_
    refine tt_call0S (rest := [.ref h0]) C (ct_X11_isAmount_s1 hl D cA ak p2) jw_5528f553d9 jw_2fe9b26ec1 jw_f96c99f44d jw_8ebf3e5748 jn_X11_isAmount rfl (jj_le rfl) (jj_le rfl) (jj_le rfl) (jj_le rfl) (jj_le rfl) dX11_subscribe_10 rfl (fun w1 r O_9 => ?_)
    rcases O_9 with ⟨c_10, -, rfl⟩ | ⟨c_11, c_12, -, rfl⟩ | ⟨c_13, c_14, -, rfl⟩
    · have z_c_10 := jc_ltL (a := p2.toInt) (b := 1) c_10 (Int32.toInt_toInt64 p2) (by decide)
      refine jj_if_neF (tgt := 20) C dX11_subscribe_13 (by decide) (by decide) ?_
      refine jj_iconst (v := 1) C dX11_subscribe_16 (by decide) ?_
      refine jj_goto (tgt := 21) C dX11_subscribe_17 (by decide) ?_
      refine jj_iconst (v := 2) C dX11_subscribe_21 (by decide) ?_
      obtain ⟨qc, gs, hqc⟩ := tt_recv (cx := []) hok_2 hk0 (by decide) rfl
      refine tt_callV (rest := []) C (rc_X11_fails_685228 hl D cA ak hk0 hkw hka hkt hki hkf hkp hok_2 hm) [] [] rfl rfl (by decide) (by decide) (by decide) qc hqc rfl rfl jw_9c28fd2e32 jw_193b10eb43 jw_69bbe80566 jw_f96c99f44d jw_a520512e18 jn_X11_fails rfl (jj_le rfl) (jj_le rfl) (jj_le rfl) (jj_le rfl) (jj_le rfl) dX11_subscribe_22 rfl (fun _ _ _ hX => hX.elim) (fun rx pl_15 r O_19 => ?_)
      obtain ⟨rfl, hok_16, hr_17, ha_18, hR_20⟩ := O_19
      replace hs6 := hr_17.at hk0 (by decide) (by decide) hs6
      replace hC := ha_18.at hkw (by decide) (by decide) hC
      replace hCp := ha_18.at hkp (by decide) (by decide) hCp
      replace hm := hm.fr hr_17 hk0 rfl
      replace hfr := hfr.trans (hr_17.sub (by decide))
      replace hfa := hfa.trans (ha_18.sub (by decide))
      obtain rfl := hR_20
      refine jj_if_neT (tgt := 40) C dX11_subscribe_25 (by decide) (by decide) ?_
      refine jj_iconst (v := 0) C dX11_subscribe_40 (by decide) ?_
      exact jj_iret C ⟨[], pl_15, rfl, rfl, hok_16, hfr, hfa, ⟨⟨_, _, n6, hC, hCp, hs6, (by omega), (hK.mono (by omega) (by omega)), hHP.mono (by omega) (by omega)⟩, (0 : Int32), rfl⟩⟩ dX11_subscribe_41 (jj_le rfl) (jj_le rfl)
    · have z_c_11 := jc_nltL (a := p2.toInt) (b := 1) c_11 (Int32.toInt_toInt64 p2) (by decide)
      have z_c_12 := jc_ltL (a := 9999999) (b := p2.toInt) c_12 (by decide) (Int32.toInt_toInt64 p2)
      refine jj_if_neF (tgt := 20) C dX11_subscribe_13 (by decide) (by decide) ?_
      refine jj_iconst (v := 1) C dX11_subscribe_16 (by decide) ?_
      refine jj_goto (tgt := 21) C dX11_subscribe_17 (by decide) ?_
      refine jj_iconst (v := 2) C dX11_subscribe_21 (by decide) ?_
      obtain ⟨qc, gs, hqc⟩ := tt_recv (cx := []) hok_2 hk0 (by decide) rfl
      refine tt_callV (rest := []) C (rc_X11_fails_685228 hl D cA ak hk0 hkw hka hkt hki hkf hkp hok_2 hm) [] [] rfl rfl (by decide) (by decide) (by decide) qc hqc rfl rfl jw_9c28fd2e32 jw_193b10eb43 jw_69bbe80566 jw_f96c99f44d jw_a520512e18 jn_X11_fails rfl (jj_le rfl) (jj_le rfl) (jj_le rfl) (jj_le rfl) (jj_le rfl) dX11_subscribe_22 rfl (fun _ _ _ hX => hX.elim) (fun rx pl_21 r O_25 => ?_)
      obtain ⟨rfl, hok_22, hr_23, ha_24, hR_26⟩ := O_25
      replace hs6 := hr_23.at hk0 (by decide) (by decide) hs6
      replace hC := ha_24.at hkw (by decide) (by decide) hC
      replace hCp := ha_24.at hkp (by decide) (by decide) hCp
      replace hm := hm.fr hr_23 hk0 rfl
      replace hfr := hfr.trans (hr_23.sub (by decide))
      replace hfa := hfa.trans (ha_24.sub (by decide))
      obtain rfl := hR_26
      refine jj_if_neT (tgt := 40) C dX11_subscribe_25 (by decide) (by decide) ?_
      refine jj_iconst (v := 0) C dX11_subscribe_40 (by decide) ?_
      exact jj_iret C ⟨[], pl_21, rfl, rfl, hok_22, hfr, hfa, ⟨⟨_, _, n6, hC, hCp, hs6, (by omega), (hK.mono (by omega) (by omega)), hHP.mono (by omega) (by omega)⟩, (0 : Int32), rfl⟩⟩ dX11_subscribe_41 (jj_le rfl) (jj_le rfl)
    · have z_c_13 := jc_nltL (a := p2.toInt) (b := 1) c_13 (Int32.toInt_toInt64 p2) (by decide)
      have z_c_14 := jc_nltL (a := 9999999) (b := p2.toInt) c_14 (by decide) (Int32.toInt_toInt64 p2)
      refine jj_if_neT (tgt := 20) C dX11_subscribe_13 (by decide) (by decide) ?_
      refine jj_iconst (v := 0) C dX11_subscribe_20 (by decide) ?_
      refine jj_iconst (v := 2) C dX11_subscribe_21 (by decide) ?_
      obtain ⟨qc, gs, hqc⟩ := tt_recv (cx := []) hok_2 hk0 (by decide) rfl
      refine tt_callV (rest := []) C (rc_X11_fails_a6808a hl D cA ak hk0 hkw hka hkt hki hkf hkp hok_2 hm) [] [] rfl rfl (by decide) (by decide) (by decide) qc hqc rfl rfl jw_9c28fd2e32 jw_193b10eb43 jw_69bbe80566 jw_f96c99f44d jw_a520512e18 jn_X11_fails rfl (jj_le rfl) (jj_le rfl) (jj_le rfl) (jj_le rfl) (jj_le rfl) dX11_subscribe_22 rfl (fun _ _ _ hX => hX.elim) (fun rx pl_27 r O_31 => ?_)
      obtain ⟨rfl, hok_28, hr_29, ha_30, hR_32⟩ := O_31
      replace hs6 := hr_29.at hk0 (by decide) (by decide) hs6
      replace hC := ha_30.at hkw (by decide) (by decide) hC
      replace hCp := ha_30.at hkp (by decide) (by decide) hCp
      replace hm := hm.fr hr_29 hk0 rfl
      replace hfr := hfr.trans (hr_29.sub (by decide))
      replace hfa := hfa.trans (ha_30.sub (by decide))
      obtain rfl := hR_32
      refine jj_if_neF (tgt := 40) C dX11_subscribe_25 (by decide) (by decide) ?_
      refine jj_aload_n C dX11_subscribe_28 rfl ?_
      refine jj_aload_n C dX11_subscribe_29 rfl ?_
      obtain ⟨qc, gs, hqc⟩ := tt_recv (cx := []) hok_28 hk0 (by decide) rfl
      refine tt_callV (rest := [.ref h0]) C (rs_isFull hl D cA ak f hk0 hkw hka hkt hki hkf hkp ⟨⟨g0a, g0b⟩, ⟨g1a, g1b⟩, ⟨g6a, g6b⟩, ⟨g7a, g7b⟩, ⟨g8a, g8b⟩⟩ hok_28 hm hC) [] [] rfl rfl (by decide) (by decide) (by decide) qc hqc rfl rfl jw_295437ea71 jw_d3b21ae075 jw_9b870e1ec6 jw_f96c99f44d jw_6b82d6ccbb jn_X11_isFull rfl (jj_le rfl) (jj_le rfl) (jj_le rfl) (jj_le rfl) (jj_le rfl) dX11_subscribe_30 rfl (fun _ _ _ hX => hX.elim) (fun rx pl_33 r O_37 => ?_)
      obtain ⟨rfl, hok_34, hr_35, ha_36, hR_38⟩ := O_37
      replace hs6 := hr_35.at hk0 (by decide) (by decide) hs6
      replace hC := ha_36.at hkw (by decide) (by decide) hC
      replace hCp := ha_36.at hkp (by decide) (by decide) hCp
      replace hm := hm.fr hr_35 hk0 rfl
      replace hfr := hfr.trans (hr_35.sub (by decide))
      replace hfa := hfa.trans (ha_36.sub (by decide))
      rcases hR_38 with ⟨hz_39, rfl⟩ | ⟨hz_40, rfl⟩
      · refine jj_iconst (v := 3) C dX11_subscribe_33 (by decide) ?_
        obtain ⟨qc, gs, hqc⟩ := tt_recv (cx := []) hok_34 hk0 (by decide) rfl
        refine tt_callV (rest := []) C (rc_X11_fails_9d5c93 hl D cA ak hk0 hkw hka hkt hki hkf hkp hok_34 hm) [] [] rfl rfl (by decide) (by decide) (by decide) qc hqc rfl rfl jw_9c28fd2e32 jw_193b10eb43 jw_69bbe80566 jw_f96c99f44d jw_a520512e18 jn_X11_fails rfl (jj_le rfl) (jj_le rfl) (jj_le rfl) (jj_le rfl) (jj_le rfl) dX11_subscribe_34 rfl (fun _ _ _ hX => hX.elim) (fun rx pl_41 r O_45 => ?_)
        obtain ⟨rfl, hok_42, hr_43, ha_44, hR_46⟩ := O_45
        replace hs6 := hr_43.at hk0 (by decide) (by decide) hs6
        replace hC := ha_44.at hkw (by decide) (by decide) hC
        replace hCp := ha_44.at hkp (by decide) (by decide) hCp
        replace hm := hm.fr hr_43 hk0 rfl
        replace hfr := hfr.trans (hr_43.sub (by decide))
        replace hfa := hfa.trans (ha_44.sub (by decide))
        obtain rfl := hR_46
        refine jj_if_eqT (tgt := 42) C dX11_subscribe_37 (by decide) (by decide) ?_
        refine jj_aload_n C dX11_subscribe_42 rfl ?_
        obtain ⟨qc, gs, hqc⟩ := tt_recv (cx := []) hok_42 hk0 (by decide) rfl
        refine tt_callV (rest := []) C (rs_remember hl D cA ak n6 B C9 f P hk0 hkw hka hkt hki hkf hkp (by first | omega | decide) (by first | omega | decide) hK hHP hok_42 hm hC hCp hs6) [] [] rfl rfl (by decide) (by decide) (by decide) qc hqc rfl rfl jw_3b6f5db06c jw_215a43d218 jw_543635bfa3 jw_f96c99f44d jw_041a43c133 jn_X11_remember rfl (jj_le rfl) (jj_le rfl) (jj_le rfl) (jj_le rfl) (jj_le rfl) dX11_subscribe_43 rfl (fun _ _ _ hX => hX.elim) (fun rx pl_47 r O_51 => ?_)
        obtain ⟨rfl, hok_48, hr_49, ha_50, hR_52⟩ := O_51
        replace hC := ha_50.at hkw (by decide) (by decide) hC
        replace hm := hm.fr hr_49 hk0 rfl
        replace hfr := hfr.trans (hr_49.sub (by decide))
        replace hfa := hfa.trans (ha_50.sub (by decide))
        obtain ⟨g_53, n_54, hC_55, hf_56, hn_57, hQ_58, rfl⟩ := hR_52
        refine jj_aload_n C dX11_subscribe_46 rfl ?_
        refine jj_aload_n C dX11_subscribe_47 rfl ?_
        refine tt_getF C hok_48 jk_12 0 (by decide) jw_34eaf3ba8b (t := (2, 2, 0)) hk0 (by decide) rfl rfl hm.1 dX11_subscribe_48 ?_
        refine jj_iload_n C dX11_subscribe_51 rfl ?_
        refine jj_lconst (v := 0) C dX11_subscribe_52 (by decide) ?_
        refine jj_iload_n C dX11_subscribe_53 rfl ?_
        obtain ⟨y_59, ey_59, vy_59⟩ := tt_i2l p2
        refine jj_i2l (v := y_59) C dX11_subscribe_54 ey_59 ?_
        obtain ⟨qc, gs, hqc⟩ := tt_recv (cx := []) hok_48 hk0 (by decide) rfl
        refine tt_callV (rest := []) C (rs_ask_aw hl D cA ak p1 (0 : Int64) y_59 B (B + 30000000) f hk0 hkw hka hkt hki hkf hkp hI (by omega) (Or.inl rfl) (fun _ => ⟨by omega, by omega⟩) (by rw [if_pos rfl]; have := hI.2.2.2.2.2.2.2; omega) hok_48 hm hC) [] [] rfl rfl (by decide) (by decide) (by decide) qc hqc rfl rfl jw_5aa504ca27 jw_8305b013c0 jw_b768ebc9da jw_f96c99f44d jw_244fd0acfd jn_X11_ask rfl (jj_le rfl) (jj_le rfl) (jj_le rfl) (jj_le rfl) (jj_le rfl) dX11_subscribe_55 rfl (fun _ _ _ hX => hX.elim) (fun rx pl_60 r O_64 => ?_)
        obtain ⟨rfl, hok_61, hr_62, ha_63, hR_65⟩ := O_64
        replace hf_56 := hr_62.at hk0 (by decide) (by decide) hf_56
        replace hC_55 := ha_63.at hkp (by decide) (by decide) hC_55
        replace hm := hm.fr hr_62 hk0 rfl
        replace hfr := hfr.trans (hr_62.sub (by decide))
        replace hfa := hfa.trans (ha_63.sub (by decide))
        obtain ⟨g_66, hC_67, hI_68, hq_69, hq_70, hq_71, hq_72, rfl⟩ := hR_65
        obtain ⟨⟨g0ag_66, g0bg_66⟩, ⟨g1ag_66, g1bg_66⟩, ⟨g6ag_66, g6bg_66⟩, ⟨g7ag_66, g7bg_66⟩, ⟨g8ag_66, g8bg_66⟩⟩ := hI_68.1.1
        refine jj_aload_n C dX11_subscribe_58 rfl ?_
        refine tt_getF C hok_61 jk_12 0 (by decide) jw_34eaf3ba8b (t := (2, 2, 0)) hk0 (by decide) rfl rfl hm.1 dX11_subscribe_59 ?_
        refine jj_bipush (v := 8) C dX11_subscribe_62 (by decide) ?_
        refine rl_lald C hok_61 (t := (1, (-9223372036854775808), 9223372036854775807)) hkw (by decide) rfl (k := 8) (v := (g_66 8)) (vp_in_iff.mpr (by decide)) hC_67 (by decide) rfl dX11_subscribe_64 ?_
        obtain ⟨n_73, en_73, vn_73⟩ := rl_l2i (x := (g_66 8)) (by omega) (by omega)
        refine jj_l2i (v := nI n_73) C dX11_subscribe_65 en_73 ?_
        refine jj_iconst (v := 1) C dX11_subscribe_66 (by decide) ?_
        obtain ⟨x_74, ex_74, vx_74⟩ := tt_isub (x := (nI n_73)) (y := (1 : Int32)) (a := ((n_73 : Nat) : Int)) (rl_ti (by omega)) (b := 1) (by decide) (by omega) (by omega)
        refine jj_isub (v := x_74) C dX11_subscribe_67 ex_74 ?_
        exact jj_iret C ⟨[], pl_60, rfl, rfl, hok_61, hfr, hfa, ⟨⟨_, _, n_54, hC_67, hC_55, hf_56, (by omega), ⟨hI_68, (hq_70 hP), (by have q9 := congrArg Int64.toInt (hq_71 9 (by decide) (by decide)); omega)⟩, hQ_58.mono (by omega) (by omega)⟩, x_74, rfl⟩⟩ dX11_subscribe_68 (jj_le rfl) (jj_le rfl)
      · refine jj_iconst (v := 3) C dX11_subscribe_33 (by decide) ?_
        obtain ⟨qc, gs, hqc⟩ := tt_recv (cx := []) hok_34 hk0 (by decide) rfl
        refine tt_callV (rest := []) C (rc_X11_fails_31621d hl D cA ak hk0 hkw hka hkt hki hkf hkp hok_34 hm) [] [] rfl rfl (by decide) (by decide) (by decide) qc hqc rfl rfl jw_9c28fd2e32 jw_193b10eb43 jw_69bbe80566 jw_f96c99f44d jw_a520512e18 jn_X11_fails rfl (jj_le rfl) (jj_le rfl) (jj_le rfl) (jj_le rfl) (jj_le rfl) dX11_subscribe_34 rfl (fun _ _ _ hX => hX.elim) (fun rx pl_75 r O_79 => ?_)
        obtain ⟨rfl, hok_76, hr_77, ha_78, hR_80⟩ := O_79
        replace hs6 := hr_77.at hk0 (by decide) (by decide) hs6
        replace hC := ha_78.at hkw (by decide) (by decide) hC
        replace hCp := ha_78.at hkp (by decide) (by decide) hCp
        replace hm := hm.fr hr_77 hk0 rfl
        replace hfr := hfr.trans (hr_77.sub (by decide))
        replace hfa := hfa.trans (ha_78.sub (by decide))
        obtain rfl := hR_80
        refine jj_if_eqF (tgt := 42) C dX11_subscribe_37 (by decide) (by decide) ?_
        refine jj_iconst (v := 0) C dX11_subscribe_40 (by decide) ?_
        exact jj_iret C ⟨[], pl_75, rfl, rfl, hok_76, hfr, hfa, ⟨⟨_, _, n6, hC, hCp, hs6, (by omega), (hK.mono (by omega) (by omega)), hHP.mono (by omega) (by omega)⟩, (0 : Int32), rfl⟩⟩ dX11_subscribe_41 (jj_le rfl) (jj_le rfl)

set_option maxHeartbeats 4000000 in
set_option maxRecDepth 100000 in
theorem rs_redeem {l : Launch} (hl : l.stackTraces = false) (D : va_G) (cA : Nat → ClassId) (ak : (Nat → Nat) × (Nat → Nat)) {Kd : Nat → Nat} {h0 aw aa at0 ai af ap : Nat} (n6 : Nat) (p1 : Int32) (p2 : Int32) (B C9 : Int) (f P : Nat → Int64) (hk0 : Kd h0 = 1) (hkw : Kd aw = 2) (hka : Kd aa = 3) (hkt : Kd at0 = 4) (hki : Kd ai = 5) (hkf : Kd af = 6) (hkp : Kd ap = 7) (ln6 : (0 : Int) ≤ (n6 : Int)) (un6 : (n6 : Int) ≤ 10) (hK : rl_K B C9 f) (hHP : rl_HP B C9 P n6) (hB5 : B ≤ 43520000000) (hB0 : 12760000000 ≤ B) (hC9 : 0 ≤ C9 ∧ C9 ≤ 4000000000000000000) {pl0 : va_W} (hok : tt_ok rt_tk cA Kd pl0) (hm : rl_m pl0 h0 aw aa at0 ai af ap) (hC : tt_lc pl0 aw f) (hCp : tt_lc pl0 ap P) (hs6 : tt_at pl0 h0 6 (.int (nI n6))) : jj_M l D cA ak yX11_redeem (.code yX11_redeem cX11_redeem 3 (some .int)) 4 87 0 0 ([] ++ pl0) [.ref h0, .int p1, .int p2] (tt_O (fun rx pl1 r => rx = [] ∧ tt_ok rt_tk cA Kd pl1 ∧ tt_fr Kd [(1, 6), (1, 7)] pl0 pl1 ∧ tt_fa Kd [2, 3, 7] pl0 pl1 ∧ ((rl_M (B + 30000000) (C9 + 2000) pl1 h0 aw ap ∧ ∃ v : Int32, r = some (.int v))))) (tt_OX (fun _ _ _ => False)) := by
  refine jj_start hl (by decide) jw_18505130b2 (jj_le rfl) ?_
  intro p e s m args below meth c A hargs hA C hex hmn
  have hfr := tt_fr.refl (K := Kd) (WS := [(1, 6), (1, 7)]) pl0
  have hfa := tt_fa.refl (K := Kd) (WA := [2, 3, 7]) pl0
  have hI := hK.1
  have hP := hK.2.1
  have hH := hI.1.1
  obtain ⟨⟨g0a, g0b⟩, ⟨g1a, g1b⟩, ⟨g6a, g6b⟩, ⟨g7a, g7b⟩, ⟨g8a, g8b⟩⟩ := hH
  have hB : B ≤ 43920000000 := by omega
  have hB6 : B + 360000000 ≤ 43920000000 := by omega
  have h9a := hK.2.2.1
  have h9b := hK.2.2.2
  have h9 : 0 ≤ (f 9).toInt ∧ (f 9).toInt < 4611686018427387000 := ⟨h9a, by omega⟩
  have lp1 := tt_lo p1
  have up1 := tt_hi p1
  have lp2 := tt_lo p2
  have up2 := tt_hi p2
  refine jj_aload_n C dX11_redeem_0 rfl ?_
  refine jj_iload_n C dX11_redeem_1 rfl ?_
  obtain ⟨qc, gs, hqc⟩ := tt_recv (cx := []) hok hk0 (by decide) rfl
  refine tt_callV (rest := []) C (rc_X11_isNoInvestor_d8d95c hl D cA ak p1 _ hk0 hkw hka hkt hki hkf hkp ⟨⟨g0a, g0b⟩, ⟨g1a, g1b⟩, ⟨g6a, g6b⟩, ⟨g7a, g7b⟩, ⟨g8a, g8b⟩⟩ hok hm hC) [] [] rfl rfl (by decide) (by decide) (by decide) qc hqc rfl rfl jw_daecd531da jw_4e28b3e206 jw_f3a40b16e4 jw_f96c99f44d jw_78c857bdda jn_X11_isNoInvestor rfl (jj_le rfl) (jj_le rfl) (jj_le rfl) (jj_le rfl) (jj_le rfl) dX11_redeem_2 rfl (fun _ _ _ hX => hX.elim) (fun rx pl_1 r O_5 => ?_)
  obtain ⟨rfl, hok_2, hr_3, ha_4, hR_6⟩ := O_5
  replace hs6 := hr_3.at hk0 (by decide) (by decide) hs6
  replace hC := ha_4.at hkw (by decide) (by decide) hC
  replace hCp := ha_4.at hkp (by decide) (by decide) hCp
  replace hm := hm.fr hr_3 hk0 rfl
  replace hfr := hfr.trans (hr_3.sub (by decide))
  replace hfa := hfa.trans (ha_4.sub (by decide))
  rcases hR_6 with rfl | ⟨l_7, u_8, rfl⟩
  · refine jj_if_neT (tgt := 50) C dX11_redeem_5 (by decide) (by decide) ?_
    refine jj_iconst (v := 0) C dX11_redeem_50 (by decide) ?_
    exact jj_iret C ⟨[], pl_1, rfl, rfl, hok_2, hfr, hfa, ⟨⟨_, _, n6, hC, hCp, hs6, (by omega), (hK.mono (by omega) (by omega)), hHP.mono (by omega) (by omega)⟩, (0 : Int32), rfl⟩⟩ dX11_redeem_51 (jj_le rfl) (jj_le rfl)
  · refine jj_if_neF (tgt := 50) C dX11_redeem_5 (by decide) (by decide) ?_
    refine jj_aload_n C dX11_redeem_8 rfl ?_
    refine jj_iload_n C dX11_redeem_9 rfl ?_
    refine tt_call0S (rest := [.ref h0]) C (ct_X11_isUnits_s1 hl D cA ak p2) jw_f563dbedcf jw_df0ae9c2de jw_f96c99f44d jw_65c6480382 jn_X11_isUnits rfl (jj_le rfl) (jj_le rfl) (jj_le rfl) (jj_le rfl) (jj_le rfl) dX11_redeem_10 rfl (fun w1 r O_9 => ?_)
    rcases O_9 with ⟨c_10, -, rfl⟩ | ⟨c_11, c_12, -, rfl⟩ | ⟨c_13, c_14, -, rfl⟩
    · have z_c_10 := jc_ltL (a := p2.toInt) (b := 1) c_10 (Int32.toInt_toInt64 p2) (by decide)
      refine jj_if_neF (tgt := 20) C dX11_redeem_13 (by decide) (by decide) ?_
      refine jj_iconst (v := 1) C dX11_redeem_16 (by decide) ?_
      refine jj_goto (tgt := 21) C dX11_redeem_17 (by decide) ?_
      refine jj_iconst (v := 2) C dX11_redeem_21 (by decide) ?_
      obtain ⟨qc, gs, hqc⟩ := tt_recv (cx := []) hok_2 hk0 (by decide) rfl
      refine tt_callV (rest := []) C (rc_X11_fails_685228 hl D cA ak hk0 hkw hka hkt hki hkf hkp hok_2 hm) [] [] rfl rfl (by decide) (by decide) (by decide) qc hqc rfl rfl jw_9c28fd2e32 jw_193b10eb43 jw_69bbe80566 jw_f96c99f44d jw_a520512e18 jn_X11_fails rfl (jj_le rfl) (jj_le rfl) (jj_le rfl) (jj_le rfl) (jj_le rfl) dX11_redeem_22 rfl (fun _ _ _ hX => hX.elim) (fun rx pl_15 r O_19 => ?_)
      obtain ⟨rfl, hok_16, hr_17, ha_18, hR_20⟩ := O_19
      replace hs6 := hr_17.at hk0 (by decide) (by decide) hs6
      replace hC := ha_18.at hkw (by decide) (by decide) hC
      replace hCp := ha_18.at hkp (by decide) (by decide) hCp
      replace hm := hm.fr hr_17 hk0 rfl
      replace hfr := hfr.trans (hr_17.sub (by decide))
      replace hfa := hfa.trans (ha_18.sub (by decide))
      obtain rfl := hR_20
      refine jj_if_neT (tgt := 50) C dX11_redeem_25 (by decide) (by decide) ?_
      refine jj_iconst (v := 0) C dX11_redeem_50 (by decide) ?_
      exact jj_iret C ⟨[], pl_15, rfl, rfl, hok_16, hfr, hfa, ⟨⟨_, _, n6, hC, hCp, hs6, (by omega), (hK.mono (by omega) (by omega)), hHP.mono (by omega) (by omega)⟩, (0 : Int32), rfl⟩⟩ dX11_redeem_51 (jj_le rfl) (jj_le rfl)
    · have z_c_11 := jc_nltL (a := p2.toInt) (b := 1) c_11 (Int32.toInt_toInt64 p2) (by decide)
      have z_c_12 := jc_ltL (a := 99999999) (b := p2.toInt) c_12 (by decide) (Int32.toInt_toInt64 p2)
      refine jj_if_neF (tgt := 20) C dX11_redeem_13 (by decide) (by decide) ?_
      refine jj_iconst (v := 1) C dX11_redeem_16 (by decide) ?_
      refine jj_goto (tgt := 21) C dX11_redeem_17 (by decide) ?_
      refine jj_iconst (v := 2) C dX11_redeem_21 (by decide) ?_
      obtain ⟨qc, gs, hqc⟩ := tt_recv (cx := []) hok_2 hk0 (by decide) rfl
      refine tt_callV (rest := []) C (rc_X11_fails_685228 hl D cA ak hk0 hkw hka hkt hki hkf hkp hok_2 hm) [] [] rfl rfl (by decide) (by decide) (by decide) qc hqc rfl rfl jw_9c28fd2e32 jw_193b10eb43 jw_69bbe80566 jw_f96c99f44d jw_a520512e18 jn_X11_fails rfl (jj_le rfl) (jj_le rfl) (jj_le rfl) (jj_le rfl) (jj_le rfl) dX11_redeem_22 rfl (fun _ _ _ hX => hX.elim) (fun rx pl_21 r O_25 => ?_)
      obtain ⟨rfl, hok_22, hr_23, ha_24, hR_26⟩ := O_25
      replace hs6 := hr_23.at hk0 (by decide) (by decide) hs6
      replace hC := ha_24.at hkw (by decide) (by decide) hC
      replace hCp := ha_24.at hkp (by decide) (by decide) hCp
      replace hm := hm.fr hr_23 hk0 rfl
      replace hfr := hfr.trans (hr_23.sub (by decide))
      replace hfa := hfa.trans (ha_24.sub (by decide))
      obtain rfl := hR_26
      refine jj_if_neT (tgt := 50) C dX11_redeem_25 (by decide) (by decide) ?_
      refine jj_iconst (v := 0) C dX11_redeem_50 (by decide) ?_
      exact jj_iret C ⟨[], pl_21, rfl, rfl, hok_22, hfr, hfa, ⟨⟨_, _, n6, hC, hCp, hs6, (by omega), (hK.mono (by omega) (by omega)), hHP.mono (by omega) (by omega)⟩, (0 : Int32), rfl⟩⟩ dX11_redeem_51 (jj_le rfl) (jj_le rfl)
    · have z_c_13 := jc_nltL (a := p2.toInt) (b := 1) c_13 (Int32.toInt_toInt64 p2) (by decide)
      have z_c_14 := jc_nltL (a := 99999999) (b := p2.toInt) c_14 (by decide) (Int32.toInt_toInt64 p2)
      refine jj_if_neT (tgt := 20) C dX11_redeem_13 (by decide) (by decide) ?_
      refine jj_iconst (v := 0) C dX11_redeem_20 (by decide) ?_
      refine jj_iconst (v := 2) C dX11_redeem_21 (by decide) ?_
      obtain ⟨qc, gs, hqc⟩ := tt_recv (cx := []) hok_2 hk0 (by decide) rfl
      refine tt_callV (rest := []) C (rc_X11_fails_a6808a hl D cA ak hk0 hkw hka hkt hki hkf hkp hok_2 hm) [] [] rfl rfl (by decide) (by decide) (by decide) qc hqc rfl rfl jw_9c28fd2e32 jw_193b10eb43 jw_69bbe80566 jw_f96c99f44d jw_a520512e18 jn_X11_fails rfl (jj_le rfl) (jj_le rfl) (jj_le rfl) (jj_le rfl) (jj_le rfl) dX11_redeem_22 rfl (fun _ _ _ hX => hX.elim) (fun rx pl_27 r O_31 => ?_)
      obtain ⟨rfl, hok_28, hr_29, ha_30, hR_32⟩ := O_31
      replace hs6 := hr_29.at hk0 (by decide) (by decide) hs6
      replace hC := ha_30.at hkw (by decide) (by decide) hC
      replace hCp := ha_30.at hkp (by decide) (by decide) hCp
      replace hm := hm.fr hr_29 hk0 rfl
      replace hfr := hfr.trans (hr_29.sub (by decide))
      replace hfa := hfa.trans (ha_30.sub (by decide))
      obtain rfl := hR_32
      refine jj_if_neF (tgt := 50) C dX11_redeem_25 (by decide) (by decide) ?_
      refine jj_aload_n C dX11_redeem_28 rfl ?_
      refine jj_aload_n C dX11_redeem_29 rfl ?_
      refine jj_iload_n C dX11_redeem_30 rfl ?_
      refine jj_iload_n C dX11_redeem_31 rfl ?_
      obtain ⟨qc, gs, hqc⟩ := tt_recv (cx := []) hok_28 hk0 (by decide) rfl
      refine tt_callV (rest := [.ref h0]) C (rs_canRedeem hl D cA ak p1 p2 f hk0 hkw hka hkt hki hkf hkp ⟨⟨g0a, g0b⟩, ⟨g1a, g1b⟩, ⟨g6a, g6b⟩, ⟨g7a, g7b⟩, ⟨g8a, g8b⟩⟩ hok_28 hm hC) [] [] rfl rfl (by decide) (by decide) (by decide) qc hqc rfl rfl jw_a2621153eb jw_7e6b4e1834 jw_327fafc04d jw_f96c99f44d jw_e82ca6f874 jn_X11_canRedeem rfl (jj_le rfl) (jj_le rfl) (jj_le rfl) (jj_le rfl) (jj_le rfl) dX11_redeem_32 rfl (fun _ _ _ hX => hX.elim) (fun rx pl_33 r O_37 => ?_)
      obtain ⟨rfl, hok_34, hr_35, ha_36, hR_38⟩ := O_37
      replace hs6 := hr_35.at hk0 (by decide) (by decide) hs6
      replace hC := ha_36.at hkw (by decide) (by decide) hC
      replace hCp := ha_36.at hkp (by decide) (by decide) hCp
      replace hm := hm.fr hr_35 hk0 rfl
      replace hfr := hfr.trans (hr_35.sub (by decide))
      replace hfa := hfa.trans (ha_36.sub (by decide))
      rcases hR_38 with rfl | ⟨hz_39, rfl⟩
      · refine jj_if_neF (tgt := 42) C dX11_redeem_35 (by decide) (by decide) ?_
        refine jj_iconst (v := 1) C dX11_redeem_38 (by decide) ?_
        refine jj_goto (tgt := 43) C dX11_redeem_39 (by decide) ?_
        refine jj_iconst (v := 3) C dX11_redeem_43 (by decide) ?_
        obtain ⟨qc, gs, hqc⟩ := tt_recv (cx := []) hok_34 hk0 (by decide) rfl
        refine tt_callV (rest := []) C (rc_X11_fails_31621d hl D cA ak hk0 hkw hka hkt hki hkf hkp hok_34 hm) [] [] rfl rfl (by decide) (by decide) (by decide) qc hqc rfl rfl jw_9c28fd2e32 jw_193b10eb43 jw_69bbe80566 jw_f96c99f44d jw_a520512e18 jn_X11_fails rfl (jj_le rfl) (jj_le rfl) (jj_le rfl) (jj_le rfl) (jj_le rfl) dX11_redeem_44 rfl (fun _ _ _ hX => hX.elim) (fun rx pl_40 r O_44 => ?_)
        obtain ⟨rfl, hok_41, hr_42, ha_43, hR_45⟩ := O_44
        replace hs6 := hr_42.at hk0 (by decide) (by decide) hs6
        replace hC := ha_43.at hkw (by decide) (by decide) hC
        replace hCp := ha_43.at hkp (by decide) (by decide) hCp
        replace hm := hm.fr hr_42 hk0 rfl
        replace hfr := hfr.trans (hr_42.sub (by decide))
        replace hfa := hfa.trans (ha_43.sub (by decide))
        obtain rfl := hR_45
        refine jj_if_eqF (tgt := 52) C dX11_redeem_47 (by decide) (by decide) ?_
        refine jj_iconst (v := 0) C dX11_redeem_50 (by decide) ?_
        exact jj_iret C ⟨[], pl_40, rfl, rfl, hok_41, hfr, hfa, ⟨⟨_, _, n6, hC, hCp, hs6, (by omega), (hK.mono (by omega) (by omega)), hHP.mono (by omega) (by omega)⟩, (0 : Int32), rfl⟩⟩ dX11_redeem_51 (jj_le rfl) (jj_le rfl)
      · refine jj_if_neT (tgt := 42) C dX11_redeem_35 (by decide) (by decide) ?_
        refine jj_iconst (v := 0) C dX11_redeem_42 (by decide) ?_
        refine jj_iconst (v := 3) C dX11_redeem_43 (by decide) ?_
        obtain ⟨qc, gs, hqc⟩ := tt_recv (cx := []) hok_34 hk0 (by decide) rfl
        refine tt_callV (rest := []) C (rc_X11_fails_9d5c93 hl D cA ak hk0 hkw hka hkt hki hkf hkp hok_34 hm) [] [] rfl rfl (by decide) (by decide) (by decide) qc hqc rfl rfl jw_9c28fd2e32 jw_193b10eb43 jw_69bbe80566 jw_f96c99f44d jw_a520512e18 jn_X11_fails rfl (jj_le rfl) (jj_le rfl) (jj_le rfl) (jj_le rfl) (jj_le rfl) dX11_redeem_44 rfl (fun _ _ _ hX => hX.elim) (fun rx pl_46 r O_50 => ?_)
        obtain ⟨rfl, hok_47, hr_48, ha_49, hR_51⟩ := O_50
        replace hs6 := hr_48.at hk0 (by decide) (by decide) hs6
        replace hC := ha_49.at hkw (by decide) (by decide) hC
        replace hCp := ha_49.at hkp (by decide) (by decide) hCp
        replace hm := hm.fr hr_48 hk0 rfl
        replace hfr := hfr.trans (hr_48.sub (by decide))
        replace hfa := hfa.trans (ha_49.sub (by decide))
        obtain rfl := hR_51
        refine jj_if_eqT (tgt := 52) C dX11_redeem_47 (by decide) (by decide) ?_
        refine jj_aload_n C dX11_redeem_52 rfl ?_
        obtain ⟨qc, gs, hqc⟩ := tt_recv (cx := []) hok_47 hk0 (by decide) rfl
        refine tt_callV (rest := []) C (rs_remember hl D cA ak n6 B C9 f P hk0 hkw hka hkt hki hkf hkp (by first | omega | decide) (by first | omega | decide) hK hHP hok_47 hm hC hCp hs6) [] [] rfl rfl (by decide) (by decide) (by decide) qc hqc rfl rfl jw_3b6f5db06c jw_215a43d218 jw_543635bfa3 jw_f96c99f44d jw_041a43c133 jn_X11_remember rfl (jj_le rfl) (jj_le rfl) (jj_le rfl) (jj_le rfl) (jj_le rfl) dX11_redeem_53 rfl (fun _ _ _ hX => hX.elim) (fun rx pl_52 r O_56 => ?_)
        obtain ⟨rfl, hok_53, hr_54, ha_55, hR_57⟩ := O_56
        replace hC := ha_55.at hkw (by decide) (by decide) hC
        replace hm := hm.fr hr_54 hk0 rfl
        replace hfr := hfr.trans (hr_54.sub (by decide))
        replace hfa := hfa.trans (ha_55.sub (by decide))
        obtain ⟨g_58, n_59, hC_60, hf_61, hn_62, hQ_63, rfl⟩ := hR_57
        refine jj_aload_n C dX11_redeem_56 rfl ?_
        refine jj_aload_n C dX11_redeem_57 rfl ?_
        refine tt_getF C hok_53 jk_12 0 (by decide) jw_34eaf3ba8b (t := (2, 2, 0)) hk0 (by decide) rfl rfl hm.1 dX11_redeem_58 ?_
        refine jj_iload_n C dX11_redeem_61 rfl ?_
        refine jj_lconst (v := 1) C dX11_redeem_62 (by decide) ?_
        refine jj_iload_n C dX11_redeem_63 rfl ?_
        obtain ⟨y_64, ey_64, vy_64⟩ := tt_i2l p2
        refine jj_i2l (v := y_64) C dX11_redeem_64 ey_64 ?_
        obtain ⟨qc, gs, hqc⟩ := tt_recv (cx := []) hok_53 hk0 (by decide) rfl
        refine tt_callV (rest := []) C (rs_ask_aw hl D cA ak p1 (1 : Int64) y_64 B (B + 30000000) f hk0 hkw hka hkt hki hkf hkp hI (by omega) (Or.inr rfl) (fun z => absurd z (by decide)) (by rw [if_neg (by decide)]; have := hI.2.2.2.2.2.2.2; omega) hok_53 hm hC) [] [] rfl rfl (by decide) (by decide) (by decide) qc hqc rfl rfl jw_5aa504ca27 jw_8305b013c0 jw_b768ebc9da jw_f96c99f44d jw_244fd0acfd jn_X11_ask rfl (jj_le rfl) (jj_le rfl) (jj_le rfl) (jj_le rfl) (jj_le rfl) dX11_redeem_65 rfl (fun _ _ _ hX => hX.elim) (fun rx pl_65 r O_69 => ?_)
        obtain ⟨rfl, hok_66, hr_67, ha_68, hR_70⟩ := O_69
        replace hf_61 := hr_67.at hk0 (by decide) (by decide) hf_61
        replace hC_60 := ha_68.at hkp (by decide) (by decide) hC_60
        replace hm := hm.fr hr_67 hk0 rfl
        replace hfr := hfr.trans (hr_67.sub (by decide))
        replace hfa := hfa.trans (ha_68.sub (by decide))
        obtain ⟨g_71, hC_72, hI_73, hq_74, hq_75, hq_76, hq_77, rfl⟩ := hR_70
        obtain ⟨⟨g0ag_71, g0bg_71⟩, ⟨g1ag_71, g1bg_71⟩, ⟨g6ag_71, g6bg_71⟩, ⟨g7ag_71, g7bg_71⟩, ⟨g8ag_71, g8bg_71⟩⟩ := hI_73.1.1
        refine jj_aload_n C dX11_redeem_68 rfl ?_
        refine tt_getF C hok_66 jk_12 0 (by decide) jw_34eaf3ba8b (t := (2, 2, 0)) hk0 (by decide) rfl rfl hm.1 dX11_redeem_69 ?_
        refine jj_bipush (v := 8) C dX11_redeem_72 (by decide) ?_
        refine rl_lald C hok_66 (t := (1, (-9223372036854775808), 9223372036854775807)) hkw (by decide) rfl (k := 8) (v := (g_71 8)) (vp_in_iff.mpr (by decide)) hC_72 (by decide) rfl dX11_redeem_74 ?_
        obtain ⟨n_78, en_78, vn_78⟩ := rl_l2i (x := (g_71 8)) (by omega) (by omega)
        refine jj_l2i (v := nI n_78) C dX11_redeem_75 en_78 ?_
        refine jj_iconst (v := 1) C dX11_redeem_76 (by decide) ?_
        obtain ⟨x_79, ex_79, vx_79⟩ := tt_isub (x := (nI n_78)) (y := (1 : Int32)) (a := ((n_78 : Nat) : Int)) (rl_ti (by omega)) (b := 1) (by decide) (by omega) (by omega)
        refine jj_isub (v := x_79) C dX11_redeem_77 ex_79 ?_
        exact jj_iret C ⟨[], pl_65, rfl, rfl, hok_66, hfr, hfa, ⟨⟨_, _, n_59, hC_72, hC_60, hf_61, (by omega), ⟨hI_73, (hq_75 hP), (by have q9 := congrArg Int64.toInt (hq_76 9 (by decide) (by decide)); omega)⟩, hQ_63.mono (by omega) (by omega)⟩, x_79, rfl⟩⟩ dX11_redeem_78 (jj_le rfl) (jj_le rfl)

set_option maxHeartbeats 4000000 in
set_option maxRecDepth 100000 in
theorem rs_withdraw {l : Launch} (hl : l.stackTraces = false) (D : va_G) (cA : Nat → ClassId) (ak : (Nat → Nat) × (Nat → Nat)) {Kd : Nat → Nat} {h0 aw aa at0 ai af ap : Nat} (n6 : Nat) (p1 : Int32) (B C9 : Int) (f P : Nat → Int64) (hk0 : Kd h0 = 1) (hkw : Kd aw = 2) (hka : Kd aa = 3) (hkt : Kd at0 = 4) (hki : Kd ai = 5) (hkf : Kd af = 6) (hkp : Kd ap = 7) (ln6 : (0 : Int) ≤ (n6 : Int)) (un6 : (n6 : Int) ≤ 10) (hK : rl_K B C9 f) (hHP : rl_HP B C9 P n6) (hB5 : B ≤ 43520000000) (hB0 : 12760000000 ≤ B) (hC9 : 0 ≤ C9 ∧ C9 ≤ 4000000000000000000) {pl0 : va_W} (hok : tt_ok rt_tk cA Kd pl0) (hm : rl_m pl0 h0 aw aa at0 ai af ap) (hC : tt_lc pl0 aw f) (hCp : tt_lc pl0 ap P) (hs6 : tt_at pl0 h0 6 (.int (nI n6))) : jj_M l D cA ak yX11_withdraw (.code yX11_withdraw cX11_withdraw 4 (some .long)) 2 46 0 0 ([] ++ pl0) [.ref h0, .int p1] (tt_O (fun rx pl1 r => rx = [] ∧ tt_ok rt_tk cA Kd pl1 ∧ tt_fr Kd [(1, 6), (1, 7)] pl0 pl1 ∧ tt_fa Kd [2, 3, 7] pl0 pl1 ∧ ((rl_M (B + 30000000) (C9 + 2000) pl1 h0 aw ap ∧ ∃ v : Int64, r = some (.long v))))) (tt_OX (fun _ _ _ => False)) := by
  refine jj_start hl (by decide) jw_d97444851e (jj_le rfl) ?_
  intro p e s m args below meth c A hargs hA C hex hmn
  have hfr := tt_fr.refl (K := Kd) (WS := [(1, 6), (1, 7)]) pl0
  have hfa := tt_fa.refl (K := Kd) (WA := [2, 3, 7]) pl0
  have hI := hK.1
  have hP := hK.2.1
  have hH := hI.1.1
  obtain ⟨⟨g0a, g0b⟩, ⟨g1a, g1b⟩, ⟨g6a, g6b⟩, ⟨g7a, g7b⟩, ⟨g8a, g8b⟩⟩ := hH
  have hB : B ≤ 43920000000 := by omega
  have hB6 : B + 360000000 ≤ 43920000000 := by omega
  have h9a := hK.2.2.1
  have h9b := hK.2.2.2
  have h9 : 0 ≤ (f 9).toInt ∧ (f 9).toInt < 4611686018427387000 := ⟨h9a, by omega⟩
  have lp1 := tt_lo p1
  have up1 := tt_hi p1
  refine jj_aload_n C dX11_withdraw_0 rfl ?_
  refine jj_iload_n C dX11_withdraw_1 rfl ?_
  obtain ⟨qc, gs, hqc⟩ := tt_recv (cx := []) hok hk0 (by decide) rfl
  refine tt_callV (rest := []) C (rs_isNoRequest hl D cA ak p1 f hk0 hkw hka hkt hki hkf hkp ⟨⟨g0a, g0b⟩, ⟨g1a, g1b⟩, ⟨g6a, g6b⟩, ⟨g7a, g7b⟩, ⟨g8a, g8b⟩⟩ hok hm hC) [] [] rfl rfl (by decide) (by decide) (by decide) qc hqc rfl rfl jw_1118ba758b jw_4c29d1d481 jw_f79fbf9a9e jw_f96c99f44d jw_c6d824393d jn_X11_isNoRequest rfl (jj_le rfl) (jj_le rfl) (jj_le rfl) (jj_le rfl) (jj_le rfl) dX11_withdraw_2 rfl (fun _ _ _ hX => hX.elim) (fun rx pl_1 r O_5 => ?_)
  obtain ⟨rfl, hok_2, hr_3, ha_4, hR_6⟩ := O_5
  replace hs6 := hr_3.at hk0 (by decide) (by decide) hs6
  replace hC := ha_4.at hkw (by decide) (by decide) hC
  replace hCp := ha_4.at hkp (by decide) (by decide) hCp
  replace hm := hm.fr hr_3 hk0 rfl
  replace hfr := hfr.trans (hr_3.sub (by decide))
  replace hfa := hfa.trans (ha_4.sub (by decide))
  rcases hR_6 with rfl | ⟨hz_7, rfl⟩
  · refine jj_if_eqF (tgt := 10) C dX11_withdraw_5 (by decide) (by decide) ?_
    refine jj_lconst (v := 0) C dX11_withdraw_8 (by decide) ?_
    exact jj_lret C ⟨[], pl_1, rfl, rfl, hok_2, hfr, hfa, ⟨⟨_, _, n6, hC, hCp, hs6, (by omega), (hK.mono (by omega) (by omega)), hHP.mono (by omega) (by omega)⟩, (0 : Int64), rfl⟩⟩ dX11_withdraw_9 (jj_le rfl) (jj_le rfl)
  · have hz_71 := hz_7.1
    have hz_72 := hz_7.2
    refine jj_if_eqT (tgt := 10) C dX11_withdraw_5 (by decide) (by decide) ?_
    refine jj_aload_n C dX11_withdraw_10 rfl ?_
    obtain ⟨qc, gs, hqc⟩ := tt_recv (cx := []) hok_2 hk0 (by decide) rfl
    refine tt_callV (rest := []) C (rs_remember hl D cA ak n6 B C9 f P hk0 hkw hka hkt hki hkf hkp (by first | omega | decide) (by first | omega | decide) hK hHP hok_2 hm hC hCp hs6) [] [] rfl rfl (by decide) (by decide) (by decide) qc hqc rfl rfl jw_3b6f5db06c jw_215a43d218 jw_543635bfa3 jw_f96c99f44d jw_041a43c133 jn_X11_remember rfl (jj_le rfl) (jj_le rfl) (jj_le rfl) (jj_le rfl) (jj_le rfl) dX11_withdraw_11 rfl (fun _ _ _ hX => hX.elim) (fun rx pl_8 r O_12 => ?_)
    obtain ⟨rfl, hok_9, hr_10, ha_11, hR_13⟩ := O_12
    replace hC := ha_11.at hkw (by decide) (by decide) hC
    replace hm := hm.fr hr_10 hk0 rfl
    replace hfr := hfr.trans (hr_10.sub (by decide))
    replace hfa := hfa.trans (ha_11.sub (by decide))
    obtain ⟨g_14, n_15, hC_16, hf_17, hn_18, hQ_19, rfl⟩ := hR_13
    refine jj_aload_n C dX11_withdraw_14 rfl ?_
    refine tt_getF C hok_9 jk_12 0 (by decide) jw_34eaf3ba8b (t := (2, 2, 0)) hk0 (by decide) rfl rfl hm.1 dX11_withdraw_15 ?_
    refine jj_iload_n C dX11_withdraw_18 rfl ?_
    obtain ⟨n_20, rfl, bn_20⟩ := rl_nat (x := p1) (by omega)
    have vn_20 := rl_ti bn_20
    refine tt_call0S (rest := [.ref aw]) C (rn_requestAt hl D cA ak n_20 (286 + 4 * n_20) (by omega)) jw_b399766b1e jw_c583cc9526 jw_f96c99f44d jw_595411e0f2 jn_X11_requestAt rfl (jj_le rfl) (jj_le rfl) (jj_le rfl) (jj_le rfl) (jj_le rfl) dX11_withdraw_19 rfl (fun w1 r hO => ?_)
    obtain ⟨-, rfl⟩ := hO
    refine jj_iconst (v := 2) C dX11_withdraw_22 (by decide) ?_
    refine jj_iadd (v := nI (288 + 4 * n_20)) C dX11_withdraw_23 (rl_addR (kn := 2) (by decide) (by omega)) ?_
    refine rl_lald C hok_9 (t := (1, (-9223372036854775808), 9223372036854775807)) hkw (by decide) rfl (k := 288 + 4 * n_20) (v := (f (288 + 4 * n_20))) (vp_in_nI (by omega) (by decide)) hC (nI_clamp (by omega)) rfl dX11_withdraw_24 ?_
    refine jj_lstore_n C dX11_withdraw_25 (by decide) rfl ?_
    refine jj_aload_n C dX11_withdraw_26 rfl ?_
    refine jj_iload_n C dX11_withdraw_27 rfl ?_
    obtain ⟨qc, gs, hqc⟩ := tt_recv (cx := []) hok_9 hk0 (by decide) rfl
    refine tt_callV (rest := []) C (rs_dropRequest hl D cA ak n_20 f hk0 hkw hka hkt hki hkf hkp (by omega) hok_9 hm hC) [] [] rfl rfl (by decide) (by decide) (by decide) qc hqc rfl rfl jw_bdcf739cf3 jw_580a505415 jw_a72d56c549 jw_f96c99f44d jw_563f13149e jn_X11_dropRequest rfl (jj_le rfl) (jj_le rfl) (jj_le rfl) (jj_le rfl) (jj_le rfl) dX11_withdraw_28 rfl (fun _ _ _ hX => hX.elim) (fun rx pl_21 r O_25 => ?_)
    obtain ⟨rfl, hok_22, hr_23, ha_24, hR_26⟩ := O_25
    replace hf_17 := hr_23.at hk0 (by decide) (by decide) hf_17
    replace hC_16 := ha_24.at hkp (by decide) (by decide) hC_16
    replace hm := hm.fr hr_23 hk0 rfl
    replace hfr := hfr.trans (hr_23.sub (by decide))
    replace hfa := hfa.trans (ha_24.sub (by decide))
    obtain ⟨hC_27, rfl⟩ := hR_26
    refine jj_lload_n C dX11_withdraw_31 rfl ?_
    exact jj_lret C ⟨[], pl_21, rfl, rfl, hok_22, hfr, hfa, ⟨⟨_, _, n_15, hC_27, hC_16, hf_17, (by omega), ((hK.dQ (r := n_20) (by unfold rnR; omega)).mono (by omega) (by omega)), hQ_19.mono (by omega) (by omega)⟩, (f (288 + 4 * n_20)), rfl⟩⟩ dX11_withdraw_32 (jj_le rfl) (jj_le rfl)

set_option maxHeartbeats 4000000 in
set_option maxRecDepth 100000 in
theorem rs_deal {l : Launch} (hl : l.stackTraces = false) (D : va_G) (cA : Nat → ClassId) (ak : (Nat → Nat) × (Nat → Nat)) {Kd : Nat → Nat} {h0 aw aa at0 ai af ap : Nat} (n6 : Nat) (B C9 : Int) (f P : Nat → Int64) (hk0 : Kd h0 = 1) (hkw : Kd aw = 2) (hka : Kd aa = 3) (hkt : Kd at0 = 4) (hki : Kd ai = 5) (hkf : Kd af = 6) (hkp : Kd ap = 7) (ln6 : (0 : Int) ≤ (n6 : Int)) (un6 : (n6 : Int) ≤ 10) (hK : rl_K B C9 f) (hHP : rl_HP B C9 P n6) (hB5 : B ≤ 43520000000) (hB0 : 12760000000 ≤ B) (hC9 : 0 ≤ C9 ∧ C9 ≤ 4000000000000000000) {pl0 : va_W} (hok : tt_ok rt_tk cA Kd pl0) (hm : rl_m pl0 h0 aw aa at0 ai af ap) (hC : tt_lc pl0 aw f) (hCp : tt_lc pl0 ap P) (hs6 : tt_at pl0 h0 6 (.int (nI n6))) : jj_M l D cA ak yX11_deal (.code yX11_deal cX11_deal 1 (some .int)) 9 228 0 0 ([] ++ pl0) [.ref h0] (tt_O (fun rx pl1 r => rx = [] ∧ tt_ok rt_tk cA Kd pl1 ∧ tt_fr Kd [(1, 6), (1, 7), (1, 8), (1, 9)] pl0 pl1 ∧ tt_fa Kd [2, 3, 5, 7, 8, 9] pl0 pl1 ∧ ((rl_M (B + 30000000) (C9 + 2000) pl1 h0 aw ap ∧ ∃ v : Int32, r = some (.int v))))) (tt_OX (fun _ _ _ => False)) := by
  refine jj_start hl (by decide) jw_d0f730d8b3 (jj_le rfl) ?_
  intro p e s m args below meth c A hargs hA C hex hmn
  have hfr := tt_fr.refl (K := Kd) (WS := [(1, 6), (1, 7), (1, 8), (1, 9)]) pl0
  have hfa := tt_fa.refl (K := Kd) (WA := [2, 3, 5, 7, 8, 9]) pl0
  have hI := hK.1
  have hP := hK.2.1
  have hH := hI.1.1
  obtain ⟨⟨g0a, g0b⟩, ⟨g1a, g1b⟩, ⟨g6a, g6b⟩, ⟨g7a, g7b⟩, ⟨g8a, g8b⟩⟩ := hH
  have hB : B ≤ 43920000000 := by omega
  have hB6 : B + 360000000 ≤ 43920000000 := by omega
  have h9a := hK.2.2.1
  have h9b := hK.2.2.2
  have h9 : 0 ≤ (f 9).toInt ∧ (f 9).toInt < 4611686018427387000 := ⟨h9a, by omega⟩
  refine jj_aload_n C dX11_deal_0 rfl ?_
  refine jj_iconst (v := 0) C dX11_deal_1 (by decide) ?_
  refine rl_put C hok jk_12 7 (by decide) jw_0a65e3738e (t := (0, (-2147483648), 2147483647)) hk0 (by decide) rfl rfl rfl (tt_ia (0 : Int32)) rfl rfl dX11_deal_2 (fun pl_1 hok_2 tr hn tl => ?_)
  replace hs6 := tr _ _ _ (Or.inr (by decide)) hs6
  have hf_3 := hn
  replace hm := hm.put tr (by decide)
  replace hfr := hfr.put hk0 tr (by decide)
  replace hC := tl _ _ hC
  replace hCp := tl _ _ hCp
  replace hfa := hfa.all tl
  refine jj_aload_n C dX11_deal_5 rfl ?_
  obtain ⟨qc, gs, hqc⟩ := tt_recv (cx := []) hok_2 hk0 (by decide) rfl
  refine tt_callV (rest := []) C (rs_remember hl D cA ak n6 B C9 f P hk0 hkw hka hkt hki hkf hkp (by first | omega | decide) (by first | omega | decide) hK hHP hok_2 hm hC hCp hs6) [] [] rfl rfl (by decide) (by decide) (by decide) qc hqc rfl rfl jw_3b6f5db06c jw_215a43d218 jw_543635bfa3 jw_f96c99f44d jw_041a43c133 jn_X11_remember rfl (jj_le rfl) (jj_le rfl) (jj_le rfl) (jj_le rfl) (jj_le rfl) dX11_deal_6 rfl (fun _ _ _ hX => hX.elim) (fun rx pl_4 r O_8 => ?_)
  obtain ⟨rfl, hok_5, hr_6, ha_7, hR_9⟩ := O_8
  replace hf_3 := hr_6.at hk0 (by decide) (by decide) hf_3
  replace hC := ha_7.at hkw (by decide) (by decide) hC
  replace hm := hm.fr hr_6 hk0 rfl
  replace hfr := hfr.trans (hr_6.sub (by decide))
  replace hfa := hfa.trans (ha_7.sub (by decide))
  obtain ⟨g_10, n_11, hC_12, hf_13, hn_14, hQ_15, rfl⟩ := hR_9
  refine jj_aload_n C dX11_deal_9 rfl ?_
  obtain ⟨qc, gs, hqc⟩ := tt_recv (cx := []) hok_5 hk0 (by decide) rfl
  refine tt_callV (rest := []) C (rs_dealNow hl D cA ak B f hk0 hkw hka hkt hki hkf hkp hI hP hB6 h9 hok_5 hm hC) [] [] rfl rfl (by decide) (by decide) (by decide) qc hqc rfl rfl jw_10d6ffe387 jw_c13a582434 jw_c2b73db722 jw_f96c99f44d jw_fad3683772 jn_X11_dealNow rfl (jj_le rfl) (jj_le rfl) (jj_le rfl) (jj_le rfl) (jj_le rfl) dX11_deal_10 rfl (fun _ _ _ hX => hX.elim) (fun rx pl_16 r O_20 => ?_)
  obtain ⟨rfl, hok_17, hr_18, ha_19, hR_21⟩ := O_20
  replace hf_3 := hr_18.at hk0 (by decide) (by decide) hf_3
  replace hf_13 := hr_18.at hk0 (by decide) (by decide) hf_13
  replace hC_12 := ha_19.at hkp (by decide) (by decide) hC_12
  replace hm := hm.fr hr_18 hk0 rfl
  replace hfr := hfr.trans (hr_18.sub (by decide))
  replace hfa := hfa.trans (ha_19.sub (by decide))
  obtain ⟨g_22, hC_23, hI_24, hP_25, hq_26, hq_27, hq_28, x_29, rfl⟩ := hR_21
  obtain ⟨⟨g0ag_22, g0bg_22⟩, ⟨g1ag_22, g1bg_22⟩, ⟨g6ag_22, g6bg_22⟩, ⟨g7ag_22, g7bg_22⟩, ⟨g8ag_22, g8bg_22⟩⟩ := hI_24.1.1
  exact jj_iret C ⟨[], pl_16, rfl, rfl, hok_17, hfr, hfa, ⟨⟨_, _, n_11, hC_23, hC_12, hf_13, (by omega), ⟨hI_24.mono (by omega), hP_25, (by have q9 := hq_28; omega)⟩, hQ_15.mono (by omega) (by omega)⟩, x_29, rfl⟩⟩ dX11_deal_13 (jj_le rfl) (jj_le rfl)

set_option maxHeartbeats 4000000 in
set_option maxRecDepth 100000 in
theorem rs_earn {l : Launch} (hl : l.stackTraces = false) (D : va_G) (cA : Nat → ClassId) (ak : (Nat → Nat) × (Nat → Nat)) {Kd : Nat → Nat} {h0 aw aa at0 ai af ap : Nat} (n6 : Nat) (p1 : Int32) (B C9 : Int) (f P : Nat → Int64) (hk0 : Kd h0 = 1) (hkw : Kd aw = 2) (hka : Kd aa = 3) (hkt : Kd at0 = 4) (hki : Kd ai = 5) (hkf : Kd af = 6) (hkp : Kd ap = 7) (ln6 : (0 : Int) ≤ (n6 : Int)) (un6 : (n6 : Int) ≤ 10) (hK : rl_K B C9 f) (hHP : rl_HP B C9 P n6) (hB5 : B ≤ 43520000000) (hB0 : 12760000000 ≤ B) (hC9 : 0 ≤ C9 ∧ C9 ≤ 4000000000000000000) {pl0 : va_W} (hok : tt_ok rt_tk cA Kd pl0) (hm : rl_m pl0 h0 aw aa at0 ai af ap) (hC : tt_lc pl0 aw f) (hCp : tt_lc pl0 ap P) (hs6 : tt_at pl0 h0 6 (.int (nI n6))) : jj_M l D cA ak yX11_earn (.code yX11_earn cX11_earn 2 (some .long)) 2 47 0 0 ([] ++ pl0) [.ref h0, .int p1] (tt_O (fun rx pl1 r => rx = [] ∧ tt_ok rt_tk cA Kd pl1 ∧ tt_fr Kd [(1, 6), (1, 7)] pl0 pl1 ∧ tt_fa Kd [2, 3, 7] pl0 pl1 ∧ ((rl_M (B + 30000000) (C9 + 2000) pl1 h0 aw ap ∧ ∃ v : Int64, r = some (.long v))))) (tt_OX (fun _ _ _ => False)) := by
  refine jj_start hl (by decide) jw_addfde654f (jj_le rfl) ?_
  intro p e s m args below meth c A hargs hA C hex hmn
  have hfr := tt_fr.refl (K := Kd) (WS := [(1, 6), (1, 7)]) pl0
  have hfa := tt_fa.refl (K := Kd) (WA := [2, 3, 7]) pl0
  have hI := hK.1
  have hP := hK.2.1
  have hH := hI.1.1
  obtain ⟨⟨g0a, g0b⟩, ⟨g1a, g1b⟩, ⟨g6a, g6b⟩, ⟨g7a, g7b⟩, ⟨g8a, g8b⟩⟩ := hH
  have hB : B ≤ 43920000000 := by omega
  have hB6 : B + 360000000 ≤ 43920000000 := by omega
  have h9a := hK.2.2.1
  have h9b := hK.2.2.2
  have h9 : 0 ≤ (f 9).toInt ∧ (f 9).toInt < 4611686018427387000 := ⟨h9a, by omega⟩
  have lp1 := tt_lo p1
  have up1 := tt_hi p1
  refine jj_aload_n C dX11_earn_0 rfl ?_
  refine jj_iload_n C dX11_earn_1 rfl ?_
  refine tt_call0S (rest := [.ref h0]) C (ct_X11_isRate_s1 hl D cA ak p1) jw_52be377752 jw_cfa2869052 jw_f96c99f44d jw_adf3c6b06d jn_X11_isRate rfl (jj_le rfl) (jj_le rfl) (jj_le rfl) (jj_le rfl) (jj_le rfl) dX11_earn_2 rfl (fun w1 r O_1 => ?_)
  rcases O_1 with ⟨c_2, -, rfl⟩ | ⟨c_3, c_4, -, rfl⟩ | ⟨c_5, c_6, -, rfl⟩
  · have z_c_2 := jc_ltL (a := p1.toInt) (b := (-9000)) c_2 (Int32.toInt_toInt64 p1) (by decide)
    refine jj_if_neF (tgt := 12) C dX11_earn_5 (by decide) (by decide) ?_
    refine jj_iconst (v := 1) C dX11_earn_8 (by decide) ?_
    refine jj_goto (tgt := 13) C dX11_earn_9 (by decide) ?_
    refine jj_iconst (v := 1) C dX11_earn_13 (by decide) ?_
    obtain ⟨qc, gs, hqc⟩ := tt_recv (cx := []) hok hk0 (by decide) rfl
    refine tt_callV (rest := []) C (rc_X11_fails_f00e4f hl D cA ak hk0 hkw hka hkt hki hkf hkp hok hm) [] [] rfl rfl (by decide) (by decide) (by decide) qc hqc rfl rfl jw_9c28fd2e32 jw_193b10eb43 jw_69bbe80566 jw_f96c99f44d jw_a520512e18 jn_X11_fails rfl (jj_le rfl) (jj_le rfl) (jj_le rfl) (jj_le rfl) (jj_le rfl) dX11_earn_14 rfl (fun _ _ _ hX => hX.elim) (fun rx pl_7 r O_11 => ?_)
    obtain ⟨rfl, hok_8, hr_9, ha_10, hR_12⟩ := O_11
    replace hs6 := hr_9.at hk0 (by decide) (by decide) hs6
    replace hC := ha_10.at hkw (by decide) (by decide) hC
    replace hCp := ha_10.at hkp (by decide) (by decide) hCp
    replace hm := hm.fr hr_9 hk0 rfl
    replace hfr := hfr.trans (hr_9.sub (by decide))
    replace hfa := hfa.trans (ha_10.sub (by decide))
    obtain rfl := hR_12
    refine jj_if_neT (tgt := 33) C dX11_earn_17 (by decide) (by decide) ?_
    refine jj_lconst (v := 0) C dX11_earn_33 (by decide) ?_
    exact jj_lret C ⟨[], pl_7, rfl, rfl, hok_8, hfr, hfa, ⟨⟨_, _, n6, hC, hCp, hs6, (by omega), (hK.mono (by omega) (by omega)), hHP.mono (by omega) (by omega)⟩, (0 : Int64), rfl⟩⟩ dX11_earn_34 (jj_le rfl) (jj_le rfl)
  · have z_c_3 := jc_nltL (a := p1.toInt) (b := (-9000)) c_3 (Int32.toInt_toInt64 p1) (by decide)
    have z_c_4 := jc_ltL (a := 9999) (b := p1.toInt) c_4 (by decide) (Int32.toInt_toInt64 p1)
    refine jj_if_neF (tgt := 12) C dX11_earn_5 (by decide) (by decide) ?_
    refine jj_iconst (v := 1) C dX11_earn_8 (by decide) ?_
    refine jj_goto (tgt := 13) C dX11_earn_9 (by decide) ?_
    refine jj_iconst (v := 1) C dX11_earn_13 (by decide) ?_
    obtain ⟨qc, gs, hqc⟩ := tt_recv (cx := []) hok hk0 (by decide) rfl
    refine tt_callV (rest := []) C (rc_X11_fails_f00e4f hl D cA ak hk0 hkw hka hkt hki hkf hkp hok hm) [] [] rfl rfl (by decide) (by decide) (by decide) qc hqc rfl rfl jw_9c28fd2e32 jw_193b10eb43 jw_69bbe80566 jw_f96c99f44d jw_a520512e18 jn_X11_fails rfl (jj_le rfl) (jj_le rfl) (jj_le rfl) (jj_le rfl) (jj_le rfl) dX11_earn_14 rfl (fun _ _ _ hX => hX.elim) (fun rx pl_13 r O_17 => ?_)
    obtain ⟨rfl, hok_14, hr_15, ha_16, hR_18⟩ := O_17
    replace hs6 := hr_15.at hk0 (by decide) (by decide) hs6
    replace hC := ha_16.at hkw (by decide) (by decide) hC
    replace hCp := ha_16.at hkp (by decide) (by decide) hCp
    replace hm := hm.fr hr_15 hk0 rfl
    replace hfr := hfr.trans (hr_15.sub (by decide))
    replace hfa := hfa.trans (ha_16.sub (by decide))
    obtain rfl := hR_18
    refine jj_if_neT (tgt := 33) C dX11_earn_17 (by decide) (by decide) ?_
    refine jj_lconst (v := 0) C dX11_earn_33 (by decide) ?_
    exact jj_lret C ⟨[], pl_13, rfl, rfl, hok_14, hfr, hfa, ⟨⟨_, _, n6, hC, hCp, hs6, (by omega), (hK.mono (by omega) (by omega)), hHP.mono (by omega) (by omega)⟩, (0 : Int64), rfl⟩⟩ dX11_earn_34 (jj_le rfl) (jj_le rfl)
  · have z_c_5 := jc_nltL (a := p1.toInt) (b := (-9000)) c_5 (Int32.toInt_toInt64 p1) (by decide)
    have z_c_6 := jc_nltL (a := 9999) (b := p1.toInt) c_6 (by decide) (Int32.toInt_toInt64 p1)
    refine jj_if_neT (tgt := 12) C dX11_earn_5 (by decide) (by decide) ?_
    refine jj_iconst (v := 0) C dX11_earn_12 (by decide) ?_
    refine jj_iconst (v := 1) C dX11_earn_13 (by decide) ?_
    obtain ⟨qc, gs, hqc⟩ := tt_recv (cx := []) hok hk0 (by decide) rfl
    refine tt_callV (rest := []) C (rc_X11_fails_8f9520 hl D cA ak hk0 hkw hka hkt hki hkf hkp hok hm) [] [] rfl rfl (by decide) (by decide) (by decide) qc hqc rfl rfl jw_9c28fd2e32 jw_193b10eb43 jw_69bbe80566 jw_f96c99f44d jw_a520512e18 jn_X11_fails rfl (jj_le rfl) (jj_le rfl) (jj_le rfl) (jj_le rfl) (jj_le rfl) dX11_earn_14 rfl (fun _ _ _ hX => hX.elim) (fun rx pl_19 r O_23 => ?_)
    obtain ⟨rfl, hok_20, hr_21, ha_22, hR_24⟩ := O_23
    replace hs6 := hr_21.at hk0 (by decide) (by decide) hs6
    replace hC := ha_22.at hkw (by decide) (by decide) hC
    replace hCp := ha_22.at hkp (by decide) (by decide) hCp
    replace hm := hm.fr hr_21 hk0 rfl
    replace hfr := hfr.trans (hr_21.sub (by decide))
    replace hfa := hfa.trans (ha_22.sub (by decide))
    obtain rfl := hR_24
    refine jj_if_neF (tgt := 33) C dX11_earn_17 (by decide) (by decide) ?_
    refine jj_aload_n C dX11_earn_20 rfl ?_
    refine jj_aload_n C dX11_earn_21 rfl ?_
    refine jj_iload_n C dX11_earn_22 rfl ?_
    obtain ⟨qc, gs, hqc⟩ := tt_recv (cx := []) hok_20 hk0 (by decide) rfl
    refine tt_callV (rest := [.ref h0]) C (rs_isTooMuch hl D cA ak p1 B f hk0 hkw hka hkt hki hkf hkp hI hP hok_20 hm hC) [] [] rfl rfl (by decide) (by decide) (by decide) qc hqc rfl rfl jw_8034c90ff2 jw_6aca30fbe1 jw_cc8ed5caa5 jw_f96c99f44d jw_1f97d6c9c0 jn_X11_isTooMuch rfl (jj_le rfl) (jj_le rfl) (jj_le rfl) (jj_le rfl) (jj_le rfl) dX11_earn_23 rfl (fun _ _ _ hX => hX.elim) (fun rx pl_25 r O_29 => ?_)
    obtain ⟨rfl, hok_26, hr_27, ha_28, hR_30⟩ := O_29
    replace hs6 := hr_27.at hk0 (by decide) (by decide) hs6
    replace hC := ha_28.at hkw (by decide) (by decide) hC
    replace hCp := ha_28.at hkp (by decide) (by decide) hCp
    replace hm := hm.fr hr_27 hk0 rfl
    replace hfr := hfr.trans (hr_27.sub (by decide))
    replace hfa := hfa.trans (ha_28.sub (by decide))
    rcases hR_30 with ⟨hG_31, rfl⟩ | rfl
    · refine jj_iconst (v := 2) C dX11_earn_26 (by decide) ?_
      obtain ⟨qc, gs, hqc⟩ := tt_recv (cx := []) hok_26 hk0 (by decide) rfl
      refine tt_callV (rest := []) C (rc_X11_fails_a6808a hl D cA ak hk0 hkw hka hkt hki hkf hkp hok_26 hm) [] [] rfl rfl (by decide) (by decide) (by decide) qc hqc rfl rfl jw_9c28fd2e32 jw_193b10eb43 jw_69bbe80566 jw_f96c99f44d jw_a520512e18 jn_X11_fails rfl (jj_le rfl) (jj_le rfl) (jj_le rfl) (jj_le rfl) (jj_le rfl) dX11_earn_27 rfl (fun _ _ _ hX => hX.elim) (fun rx pl_32 r O_36 => ?_)
      obtain ⟨rfl, hok_33, hr_34, ha_35, hR_37⟩ := O_36
      replace hs6 := hr_34.at hk0 (by decide) (by decide) hs6
      replace hC := ha_35.at hkw (by decide) (by decide) hC
      replace hCp := ha_35.at hkp (by decide) (by decide) hCp
      replace hm := hm.fr hr_34 hk0 rfl
      replace hfr := hfr.trans (hr_34.sub (by decide))
      replace hfa := hfa.trans (ha_35.sub (by decide))
      obtain rfl := hR_37
      refine jj_if_eqT (tgt := 35) C dX11_earn_30 (by decide) (by decide) ?_
      refine jj_aload_n C dX11_earn_35 rfl ?_
      obtain ⟨qc, gs, hqc⟩ := tt_recv (cx := []) hok_33 hk0 (by decide) rfl
      refine tt_callV (rest := []) C (rs_remember hl D cA ak n6 B C9 f P hk0 hkw hka hkt hki hkf hkp (by first | omega | decide) (by first | omega | decide) hK hHP hok_33 hm hC hCp hs6) [] [] rfl rfl (by decide) (by decide) (by decide) qc hqc rfl rfl jw_3b6f5db06c jw_215a43d218 jw_543635bfa3 jw_f96c99f44d jw_041a43c133 jn_X11_remember rfl (jj_le rfl) (jj_le rfl) (jj_le rfl) (jj_le rfl) (jj_le rfl) dX11_earn_36 rfl (fun _ _ _ hX => hX.elim) (fun rx pl_38 r O_42 => ?_)
      obtain ⟨rfl, hok_39, hr_40, ha_41, hR_43⟩ := O_42
      replace hC := ha_41.at hkw (by decide) (by decide) hC
      replace hm := hm.fr hr_40 hk0 rfl
      replace hfr := hfr.trans (hr_40.sub (by decide))
      replace hfa := hfa.trans (ha_41.sub (by decide))
      obtain ⟨g_44, n_45, hC_46, hf_47, hn_48, hQ_49, rfl⟩ := hR_43
      refine jj_aload_n C dX11_earn_39 rfl ?_
      refine jj_iload_n C dX11_earn_40 rfl ?_
      obtain ⟨qc, gs, hqc⟩ := tt_recv (cx := []) hok_39 hk0 (by decide) rfl
      refine tt_callV (rest := []) C (rs_gain hl D cA ak p1 B f hk0 hkw hka hkt hki hkf hkp hI hP hB hB0 ⟨by omega, by omega⟩ hG_31 hok_39 hm hC) [] [] rfl rfl (by decide) (by decide) (by decide) qc hqc rfl rfl jw_1b925bbf22 jw_7e5865b4ef jw_63e88411c2 jw_f96c99f44d jw_7b130daeac jn_X11_gain rfl (jj_le rfl) (jj_le rfl) (jj_le rfl) (jj_le rfl) (jj_le rfl) dX11_earn_41 rfl (fun _ _ _ hX => hX.elim) (fun rx pl_50 r O_54 => ?_)
      obtain ⟨rfl, hok_51, hr_52, ha_53, hR_55⟩ := O_54
      replace hf_47 := hr_52.at hk0 (by decide) (by decide) hf_47
      replace hC_46 := ha_53.at hkp (by decide) (by decide) hC_46
      replace hm := hm.fr hr_52 hk0 rfl
      replace hfr := hfr.trans (hr_52.sub (by decide))
      replace hfa := hfa.trans (ha_53.sub (by decide))
      obtain ⟨g_56, hC_57, hI_58, hq_59, hq_60, hq_61, hq_62, y_63, rfl⟩ := hR_55
      obtain ⟨⟨g0ag_56, g0bg_56⟩, ⟨g1ag_56, g1bg_56⟩, ⟨g6ag_56, g6bg_56⟩, ⟨g7ag_56, g7bg_56⟩, ⟨g8ag_56, g8bg_56⟩⟩ := hI_58.1.1
      exact jj_lret C ⟨[], pl_50, rfl, rfl, hok_51, hfr, hfa, ⟨⟨_, _, n_45, hC_57, hC_46, hf_47, (by omega), ⟨hI_58.mono (by omega), hq_59, (by have q9 := congrArg Int64.toInt (hq_62 9 (by omega)); omega)⟩, hQ_49.mono (by omega) (by omega)⟩, y_63, rfl⟩⟩ dX11_earn_44 (jj_le rfl) (jj_le rfl)
    · refine jj_iconst (v := 2) C dX11_earn_26 (by decide) ?_
      obtain ⟨qc, gs, hqc⟩ := tt_recv (cx := []) hok_26 hk0 (by decide) rfl
      refine tt_callV (rest := []) C (rc_X11_fails_685228 hl D cA ak hk0 hkw hka hkt hki hkf hkp hok_26 hm) [] [] rfl rfl (by decide) (by decide) (by decide) qc hqc rfl rfl jw_9c28fd2e32 jw_193b10eb43 jw_69bbe80566 jw_f96c99f44d jw_a520512e18 jn_X11_fails rfl (jj_le rfl) (jj_le rfl) (jj_le rfl) (jj_le rfl) (jj_le rfl) dX11_earn_27 rfl (fun _ _ _ hX => hX.elim) (fun rx pl_64 r O_68 => ?_)
      obtain ⟨rfl, hok_65, hr_66, ha_67, hR_69⟩ := O_68
      replace hs6 := hr_66.at hk0 (by decide) (by decide) hs6
      replace hC := ha_67.at hkw (by decide) (by decide) hC
      replace hCp := ha_67.at hkp (by decide) (by decide) hCp
      replace hm := hm.fr hr_66 hk0 rfl
      replace hfr := hfr.trans (hr_66.sub (by decide))
      replace hfa := hfa.trans (ha_67.sub (by decide))
      obtain rfl := hR_69
      refine jj_if_eqF (tgt := 35) C dX11_earn_30 (by decide) (by decide) ?_
      refine jj_lconst (v := 0) C dX11_earn_33 (by decide) ?_
      exact jj_lret C ⟨[], pl_64, rfl, rfl, hok_65, hfr, hfa, ⟨⟨_, _, n6, hC, hCp, hs6, (by omega), (hK.mono (by omega) (by omega)), hHP.mono (by omega) (by omega)⟩, (0 : Int64), rfl⟩⟩ dX11_earn_34 (jj_le rfl) (jj_le rfl)

set_option maxHeartbeats 4000000 in
set_option maxRecDepth 100000 in
theorem rs_passDays {l : Launch} (hl : l.stackTraces = false) (D : va_G) (cA : Nat → ClassId) (ak : (Nat → Nat) × (Nat → Nat)) {Kd : Nat → Nat} {h0 aw aa at0 ai af ap : Nat} (n6 : Nat) (p1 : Int32) (B C9 : Int) (f P : Nat → Int64) (hk0 : Kd h0 = 1) (hkw : Kd aw = 2) (hka : Kd aa = 3) (hkt : Kd at0 = 4) (hki : Kd ai = 5) (hkf : Kd af = 6) (hkp : Kd ap = 7) (ln6 : (0 : Int) ≤ (n6 : Int)) (un6 : (n6 : Int) ≤ 10) (hK : rl_K B C9 f) (hHP : rl_HP B C9 P n6) (hB5 : B ≤ 43520000000) (hB0 : 12760000000 ≤ B) (hC9 : 0 ≤ C9 ∧ C9 ≤ 4000000000000000000) {pl0 : va_W} (hok : tt_ok rt_tk cA Kd pl0) (hm : rl_m pl0 h0 aw aa at0 ai af ap) (hC : tt_lc pl0 aw f) (hCp : tt_lc pl0 ap P) (hs6 : tt_at pl0 h0 6 (.int (nI n6))) : jj_M l D cA ak yX11_passDays (.code yX11_passDays cX11_passDays 2 (some .long)) 2 47 0 0 ([] ++ pl0) [.ref h0, .int p1] (tt_O (fun rx pl1 r => rx = [] ∧ tt_ok rt_tk cA Kd pl1 ∧ tt_fr Kd [(1, 6), (1, 7)] pl0 pl1 ∧ tt_fa Kd [2, 3, 7] pl0 pl1 ∧ ((rl_M (B + 30000000) (C9 + 2000) pl1 h0 aw ap ∧ ∃ v : Int64, r = some (.long v))))) (tt_OX (fun _ _ _ => False)) := by
  refine jj_start hl (by decide) jw_0cf9781f39 (jj_le rfl) ?_
  intro p e s m args below meth c A hargs hA C hex hmn
  have hfr := tt_fr.refl (K := Kd) (WS := [(1, 6), (1, 7)]) pl0
  have hfa := tt_fa.refl (K := Kd) (WA := [2, 3, 7]) pl0
  have hI := hK.1
  have hP := hK.2.1
  have hH := hI.1.1
  obtain ⟨⟨g0a, g0b⟩, ⟨g1a, g1b⟩, ⟨g6a, g6b⟩, ⟨g7a, g7b⟩, ⟨g8a, g8b⟩⟩ := hH
  have hB : B ≤ 43920000000 := by omega
  have hB6 : B + 360000000 ≤ 43920000000 := by omega
  have h9a := hK.2.2.1
  have h9b := hK.2.2.2
  have h9 : 0 ≤ (f 9).toInt ∧ (f 9).toInt < 4611686018427387000 := ⟨h9a, by omega⟩
  have lp1 := tt_lo p1
  have up1 := tt_hi p1
  refine jj_aload_n C dX11_passDays_0 rfl ?_
  refine jj_iload_n C dX11_passDays_1 rfl ?_
  obtain ⟨y_1, ey_1, vy_1⟩ := tt_i2l p1
  refine jj_i2l (v := y_1) C dX11_passDays_2 ey_1 ?_
  refine jj_lconst (v := 1) C dX11_passDays_3 (by decide) ?_
  refine jj_ldc2 (v := 400) C dX11_passDays_4 jw_80863873a1 ?_
  refine tt_call0S (rest := [.ref h0]) C (ct_X11_in_s7 hl D cA ak y_1) jw_2a24feddee jw_12f28ccfda jw_f96c99f44d jw_e07c9ada56 jn_X11_in rfl (jj_le rfl) (jj_le rfl) (jj_le rfl) (jj_le rfl) (jj_le rfl) dX11_passDays_7 rfl (fun w1 r O_2 => ?_)
  rcases O_2 with ⟨c_3, -, rfl⟩ | ⟨c_4, c_5, -, rfl⟩ | ⟨c_6, c_7, -, rfl⟩
  · have z_c_3 := jc_ltL (a := y_1.toInt) (b := 1) c_3 rfl (by decide)
    refine jj_if_neF (tgt := 17) C dX11_passDays_10 (by decide) (by decide) ?_
    refine jj_iconst (v := 1) C dX11_passDays_13 (by decide) ?_
    refine jj_goto (tgt := 18) C dX11_passDays_14 (by decide) ?_
    refine jj_iconst (v := 1) C dX11_passDays_18 (by decide) ?_
    obtain ⟨qc, gs, hqc⟩ := tt_recv (cx := []) hok hk0 (by decide) rfl
    refine tt_callV (rest := []) C (rc_X11_fails_f00e4f hl D cA ak hk0 hkw hka hkt hki hkf hkp hok hm) [] [] rfl rfl (by decide) (by decide) (by decide) qc hqc rfl rfl jw_9c28fd2e32 jw_193b10eb43 jw_69bbe80566 jw_f96c99f44d jw_a520512e18 jn_X11_fails rfl (jj_le rfl) (jj_le rfl) (jj_le rfl) (jj_le rfl) (jj_le rfl) dX11_passDays_19 rfl (fun _ _ _ hX => hX.elim) (fun rx pl_8 r O_12 => ?_)
    obtain ⟨rfl, hok_9, hr_10, ha_11, hR_13⟩ := O_12
    replace hs6 := hr_10.at hk0 (by decide) (by decide) hs6
    replace hC := ha_11.at hkw (by decide) (by decide) hC
    replace hCp := ha_11.at hkp (by decide) (by decide) hCp
    replace hm := hm.fr hr_10 hk0 rfl
    replace hfr := hfr.trans (hr_10.sub (by decide))
    replace hfa := hfa.trans (ha_11.sub (by decide))
    obtain rfl := hR_13
    refine jj_if_eqF (tgt := 27) C dX11_passDays_22 (by decide) (by decide) ?_
    refine jj_lconst (v := 0) C dX11_passDays_25 (by decide) ?_
    exact jj_lret C ⟨[], pl_8, rfl, rfl, hok_9, hfr, hfa, ⟨⟨_, _, n6, hC, hCp, hs6, (by omega), (hK.mono (by omega) (by omega)), hHP.mono (by omega) (by omega)⟩, (0 : Int64), rfl⟩⟩ dX11_passDays_26 (jj_le rfl) (jj_le rfl)
  · have z_c_4 := jc_nltL (a := y_1.toInt) (b := 1) c_4 rfl (by decide)
    have z_c_5 := jc_ltL (a := 400) (b := y_1.toInt) c_5 (by decide) rfl
    refine jj_if_neF (tgt := 17) C dX11_passDays_10 (by decide) (by decide) ?_
    refine jj_iconst (v := 1) C dX11_passDays_13 (by decide) ?_
    refine jj_goto (tgt := 18) C dX11_passDays_14 (by decide) ?_
    refine jj_iconst (v := 1) C dX11_passDays_18 (by decide) ?_
    obtain ⟨qc, gs, hqc⟩ := tt_recv (cx := []) hok hk0 (by decide) rfl
    refine tt_callV (rest := []) C (rc_X11_fails_f00e4f hl D cA ak hk0 hkw hka hkt hki hkf hkp hok hm) [] [] rfl rfl (by decide) (by decide) (by decide) qc hqc rfl rfl jw_9c28fd2e32 jw_193b10eb43 jw_69bbe80566 jw_f96c99f44d jw_a520512e18 jn_X11_fails rfl (jj_le rfl) (jj_le rfl) (jj_le rfl) (jj_le rfl) (jj_le rfl) dX11_passDays_19 rfl (fun _ _ _ hX => hX.elim) (fun rx pl_14 r O_18 => ?_)
    obtain ⟨rfl, hok_15, hr_16, ha_17, hR_19⟩ := O_18
    replace hs6 := hr_16.at hk0 (by decide) (by decide) hs6
    replace hC := ha_17.at hkw (by decide) (by decide) hC
    replace hCp := ha_17.at hkp (by decide) (by decide) hCp
    replace hm := hm.fr hr_16 hk0 rfl
    replace hfr := hfr.trans (hr_16.sub (by decide))
    replace hfa := hfa.trans (ha_17.sub (by decide))
    obtain rfl := hR_19
    refine jj_if_eqF (tgt := 27) C dX11_passDays_22 (by decide) (by decide) ?_
    refine jj_lconst (v := 0) C dX11_passDays_25 (by decide) ?_
    exact jj_lret C ⟨[], pl_14, rfl, rfl, hok_15, hfr, hfa, ⟨⟨_, _, n6, hC, hCp, hs6, (by omega), (hK.mono (by omega) (by omega)), hHP.mono (by omega) (by omega)⟩, (0 : Int64), rfl⟩⟩ dX11_passDays_26 (jj_le rfl) (jj_le rfl)
  · have z_c_6 := jc_nltL (a := y_1.toInt) (b := 1) c_6 rfl (by decide)
    have z_c_7 := jc_nltL (a := 400) (b := y_1.toInt) c_7 (by decide) rfl
    refine jj_if_neT (tgt := 17) C dX11_passDays_10 (by decide) (by decide) ?_
    refine jj_iconst (v := 0) C dX11_passDays_17 (by decide) ?_
    refine jj_iconst (v := 1) C dX11_passDays_18 (by decide) ?_
    obtain ⟨qc, gs, hqc⟩ := tt_recv (cx := []) hok hk0 (by decide) rfl
    refine tt_callV (rest := []) C (rc_X11_fails_8f9520 hl D cA ak hk0 hkw hka hkt hki hkf hkp hok hm) [] [] rfl rfl (by decide) (by decide) (by decide) qc hqc rfl rfl jw_9c28fd2e32 jw_193b10eb43 jw_69bbe80566 jw_f96c99f44d jw_a520512e18 jn_X11_fails rfl (jj_le rfl) (jj_le rfl) (jj_le rfl) (jj_le rfl) (jj_le rfl) dX11_passDays_19 rfl (fun _ _ _ hX => hX.elim) (fun rx pl_20 r O_24 => ?_)
    obtain ⟨rfl, hok_21, hr_22, ha_23, hR_25⟩ := O_24
    replace hs6 := hr_22.at hk0 (by decide) (by decide) hs6
    replace hC := ha_23.at hkw (by decide) (by decide) hC
    replace hCp := ha_23.at hkp (by decide) (by decide) hCp
    replace hm := hm.fr hr_22 hk0 rfl
    replace hfr := hfr.trans (hr_22.sub (by decide))
    replace hfa := hfa.trans (ha_23.sub (by decide))
    obtain rfl := hR_25
    refine jj_if_eqT (tgt := 27) C dX11_passDays_22 (by decide) (by decide) ?_
    refine jj_aload_n C dX11_passDays_27 rfl ?_
    obtain ⟨qc, gs, hqc⟩ := tt_recv (cx := []) hok_21 hk0 (by decide) rfl
    refine tt_callV (rest := []) C (rs_remember hl D cA ak n6 B C9 f P hk0 hkw hka hkt hki hkf hkp (by first | omega | decide) (by first | omega | decide) hK hHP hok_21 hm hC hCp hs6) [] [] rfl rfl (by decide) (by decide) (by decide) qc hqc rfl rfl jw_3b6f5db06c jw_215a43d218 jw_543635bfa3 jw_f96c99f44d jw_041a43c133 jn_X11_remember rfl (jj_le rfl) (jj_le rfl) (jj_le rfl) (jj_le rfl) (jj_le rfl) dX11_passDays_28 rfl (fun _ _ _ hX => hX.elim) (fun rx pl_26 r O_30 => ?_)
    obtain ⟨rfl, hok_27, hr_28, ha_29, hR_31⟩ := O_30
    replace hC := ha_29.at hkw (by decide) (by decide) hC
    replace hm := hm.fr hr_28 hk0 rfl
    replace hfr := hfr.trans (hr_28.sub (by decide))
    replace hfa := hfa.trans (ha_29.sub (by decide))
    obtain ⟨g_32, n_33, hC_34, hf_35, hn_36, hQ_37, rfl⟩ := hR_31
    refine jj_aload_n C dX11_passDays_31 rfl ?_
    refine jj_iload_n C dX11_passDays_32 rfl ?_
    obtain ⟨qc, gs, hqc⟩ := tt_recv (cx := []) hok_27 hk0 (by decide) rfl
    refine tt_callV (rest := []) C (rs_goDays hl D cA ak p1 B f hk0 hkw hka hkt hki hkf hkp hI hP hB hok_27 hm hC) [] [] rfl rfl (by decide) (by decide) (by decide) qc hqc rfl rfl jw_6a0cf12fa5 jw_e5eaade289 jw_28c5f3477c jw_f96c99f44d jw_09fd61e7f6 jn_X11_goDays rfl (jj_le rfl) (jj_le rfl) (jj_le rfl) (jj_le rfl) (jj_le rfl) dX11_passDays_33 rfl (fun _ _ _ hX => hX.elim) (fun rx pl_38 r O_42 => ?_)
    obtain ⟨rfl, hok_39, hr_40, ha_41, hR_43⟩ := O_42
    replace hf_35 := hr_40.at hk0 (by decide) (by decide) hf_35
    replace hC_34 := ha_41.at hkp (by decide) (by decide) hC_34
    replace hm := hm.fr hr_40 hk0 rfl
    replace hfr := hfr.trans (hr_40.sub (by decide))
    replace hfa := hfa.trans (ha_41.sub (by decide))
    obtain ⟨g_44, hC_45, hG_46, y_47, rfl⟩ := hR_43
    obtain ⟨⟨g0ag_44, g0bg_44⟩, ⟨g1ag_44, g1bg_44⟩, ⟨g6ag_44, g6bg_44⟩, ⟨g7ag_44, g7bg_44⟩, ⟨g8ag_44, g8bg_44⟩⟩ := hG_46.1.1.1
    exact jj_lret C ⟨[], pl_38, rfl, rfl, hok_39, hfr, hfa, ⟨⟨_, _, n_33, hC_45, hC_34, hf_35, (by omega), ⟨hG_46.1.mono (by omega), hG_46.2.1, (by have q9 := congrArg Int64.toInt (hG_46.2.2.2 9 (by omega)); omega)⟩, hQ_37.mono (by omega) (by omega)⟩, y_47, rfl⟩⟩ dX11_passDays_36 (jj_le rfl) (jj_le rfl)

set_option maxHeartbeats 4000000 in
set_option maxRecDepth 100000 in
theorem rs_crystallize {l : Launch} (hl : l.stackTraces = false) (D : va_G) (cA : Nat → ClassId) (ak : (Nat → Nat) × (Nat → Nat)) {Kd : Nat → Nat} {h0 aw aa at0 ai af ap : Nat} (n6 : Nat) (B C9 : Int) (f P : Nat → Int64) (hk0 : Kd h0 = 1) (hkw : Kd aw = 2) (hka : Kd aa = 3) (hkt : Kd at0 = 4) (hki : Kd ai = 5) (hkf : Kd af = 6) (hkp : Kd ap = 7) (ln6 : (0 : Int) ≤ (n6 : Int)) (un6 : (n6 : Int) ≤ 10) (hK : rl_K B C9 f) (hHP : rl_HP B C9 P n6) (hB5 : B ≤ 43520000000) (hB0 : 12760000000 ≤ B) (hC9 : 0 ≤ C9 ∧ C9 ≤ 4000000000000000000) {pl0 : va_W} (hok : tt_ok rt_tk cA Kd pl0) (hm : rl_m pl0 h0 aw aa at0 ai af ap) (hC : tt_lc pl0 aw f) (hCp : tt_lc pl0 ap P) (hs6 : tt_at pl0 h0 6 (.int (nI n6))) : jj_M l D cA ak yX11_crystallize (.code yX11_crystallize cX11_crystallize 1 (some .long)) 4 114 0 0 ([] ++ pl0) [.ref h0] (tt_O (fun rx pl1 r => rx = [] ∧ tt_ok rt_tk cA Kd pl1 ∧ tt_fr Kd [(1, 6), (1, 7)] pl0 pl1 ∧ tt_fa Kd [2, 3, 7] pl0 pl1 ∧ ((rl_M (B + 30000000) (C9 + 2000) pl1 h0 aw ap ∧ ∃ v : Int64, r = some (.long v))))) (tt_OX (fun _ _ _ => False)) := by
  refine jj_start hl (by decide) jw_96fcf17aeb (jj_le rfl) ?_
  intro p e s m args below meth c A hargs hA C hex hmn
  have hfr := tt_fr.refl (K := Kd) (WS := [(1, 6), (1, 7)]) pl0
  have hfa := tt_fa.refl (K := Kd) (WA := [2, 3, 7]) pl0
  have hI := hK.1
  have hP := hK.2.1
  have hH := hI.1.1
  obtain ⟨⟨g0a, g0b⟩, ⟨g1a, g1b⟩, ⟨g6a, g6b⟩, ⟨g7a, g7b⟩, ⟨g8a, g8b⟩⟩ := hH
  have hB : B ≤ 43920000000 := by omega
  have hB6 : B + 360000000 ≤ 43920000000 := by omega
  have h9a := hK.2.2.1
  have h9b := hK.2.2.2
  have h9 : 0 ≤ (f 9).toInt ∧ (f 9).toInt < 4611686018427387000 := ⟨h9a, by omega⟩
  refine jj_aload_n C dX11_crystallize_0 rfl ?_
  refine jj_iconst (v := 0) C dX11_crystallize_1 (by decide) ?_
  refine rl_put C hok jk_12 7 (by decide) jw_0a65e3738e (t := (0, (-2147483648), 2147483647)) hk0 (by decide) rfl rfl rfl (tt_ia (0 : Int32)) rfl rfl dX11_crystallize_2 (fun pl_1 hok_2 tr hn tl => ?_)
  replace hs6 := tr _ _ _ (Or.inr (by decide)) hs6
  have hf_3 := hn
  replace hm := hm.put tr (by decide)
  replace hfr := hfr.put hk0 tr (by decide)
  replace hC := tl _ _ hC
  replace hCp := tl _ _ hCp
  replace hfa := hfa.all tl
  refine jj_aload_n C dX11_crystallize_5 rfl ?_
  obtain ⟨qc, gs, hqc⟩ := tt_recv (cx := []) hok_2 hk0 (by decide) rfl
  refine tt_callV (rest := []) C (rs_remember hl D cA ak n6 B C9 f P hk0 hkw hka hkt hki hkf hkp (by first | omega | decide) (by first | omega | decide) hK hHP hok_2 hm hC hCp hs6) [] [] rfl rfl (by decide) (by decide) (by decide) qc hqc rfl rfl jw_3b6f5db06c jw_215a43d218 jw_543635bfa3 jw_f96c99f44d jw_041a43c133 jn_X11_remember rfl (jj_le rfl) (jj_le rfl) (jj_le rfl) (jj_le rfl) (jj_le rfl) dX11_crystallize_6 rfl (fun _ _ _ hX => hX.elim) (fun rx pl_4 r O_8 => ?_)
  obtain ⟨rfl, hok_5, hr_6, ha_7, hR_9⟩ := O_8
  replace hf_3 := hr_6.at hk0 (by decide) (by decide) hf_3
  replace hC := ha_7.at hkw (by decide) (by decide) hC
  replace hm := hm.fr hr_6 hk0 rfl
  replace hfr := hfr.trans (hr_6.sub (by decide))
  replace hfa := hfa.trans (ha_7.sub (by decide))
  obtain ⟨g_10, n_11, hC_12, hf_13, hn_14, hQ_15, rfl⟩ := hR_9
  refine jj_aload_n C dX11_crystallize_9 rfl ?_
  obtain ⟨qc, gs, hqc⟩ := tt_recv (cx := []) hok_5 hk0 (by decide) rfl
  refine tt_callV (rest := []) C (rs_crystallizeAll hl D cA ak B f hk0 hkw hka hkt hki hkf hkp hI hP (by omega) hok_5 hm hC) [] [] rfl rfl (by decide) (by decide) (by decide) qc hqc rfl rfl jw_fc6cc84c3a jw_5814701839 jw_09f413f815 jw_f96c99f44d jw_cb826cdb82 jn_X11_crystallizeAll rfl (jj_le rfl) (jj_le rfl) (jj_le rfl) (jj_le rfl) (jj_le rfl) dX11_crystallize_10 rfl (fun _ _ _ hX => hX.elim) (fun rx pl_16 r O_20 => ?_)
  obtain ⟨rfl, hok_17, hr_18, ha_19, hR_21⟩ := O_20
  replace hf_3 := hr_18.at hk0 (by decide) (by decide) hf_3
  replace hf_13 := hr_18.at hk0 (by decide) (by decide) hf_13
  replace hC_12 := ha_19.at hkp (by decide) (by decide) hC_12
  replace hm := hm.fr hr_18 hk0 rfl
  replace hfr := hfr.trans (hr_18.sub (by decide))
  replace hfa := hfa.trans (ha_19.sub (by decide))
  obtain ⟨g_22, hC_23, hI_24, hP_25, hq_26, hq_27, y_28, rfl⟩ := hR_21
  obtain ⟨⟨g0ag_22, g0bg_22⟩, ⟨g1ag_22, g1bg_22⟩, ⟨g6ag_22, g6bg_22⟩, ⟨g7ag_22, g7bg_22⟩, ⟨g8ag_22, g8bg_22⟩⟩ := hI_24.1.1
  exact jj_lret C ⟨[], pl_16, rfl, rfl, hok_17, hfr, hfa, ⟨⟨_, _, n_11, hC_23, hC_12, hf_13, (by omega), ⟨hI_24.mono (by omega), hP_25, (by have q9 := congrArg Int64.toInt (hq_27 9 (by omega)); omega)⟩, hQ_15.mono (by omega) (by omega)⟩, y_28, rfl⟩⟩ dX11_crystallize_13 (jj_le rfl) (jj_le rfl)

set_option maxHeartbeats 4000000 in
set_option maxRecDepth 100000 in
theorem rs_merge {l : Launch} (hl : l.stackTraces = false) (D : va_G) (cA : Nat → ClassId) (ak : (Nat → Nat) × (Nat → Nat)) {Kd : Nat → Nat} {h0 aw aa at0 ai af ap : Nat} (n6 : Nat) (B C9 : Int) (f P : Nat → Int64) (hk0 : Kd h0 = 1) (hkw : Kd aw = 2) (hka : Kd aa = 3) (hkt : Kd at0 = 4) (hki : Kd ai = 5) (hkf : Kd af = 6) (hkp : Kd ap = 7) (ln6 : (0 : Int) ≤ (n6 : Int)) (un6 : (n6 : Int) ≤ 10) (hK : rl_K B C9 f) (hHP : rl_HP B C9 P n6) (hB5 : B ≤ 43520000000) (hB0 : 12760000000 ≤ B) (hC9 : 0 ≤ C9 ∧ C9 ≤ 4000000000000000000) {pl0 : va_W} (hok : tt_ok rt_tk cA Kd pl0) (hm : rl_m pl0 h0 aw aa at0 ai af ap) (hC : tt_lc pl0 aw f) (hCp : tt_lc pl0 ap P) (hs6 : tt_at pl0 h0 6 (.int (nI n6))) : jj_M l D cA ak yX11_merge (.code yX11_merge cX11_merge 1 (some .int)) 3 74 0 0 ([] ++ pl0) [.ref h0] (tt_O (fun rx pl1 r => rx = [] ∧ tt_ok rt_tk cA Kd pl1 ∧ tt_fr Kd [(1, 6), (1, 7)] pl0 pl1 ∧ tt_fa Kd [2, 3, 7] pl0 pl1 ∧ ((rl_M (B + 30000000) (C9 + 2000) pl1 h0 aw ap ∧ ∃ v : Int32, r = some (.int v))))) (tt_OX (fun _ _ _ => False)) := by
  refine jj_start hl (by decide) jw_7222545b3c (jj_le rfl) ?_
  intro p e s m args below meth c A hargs hA C hex hmn
  have hfr := tt_fr.refl (K := Kd) (WS := [(1, 6), (1, 7)]) pl0
  have hfa := tt_fa.refl (K := Kd) (WA := [2, 3, 7]) pl0
  have hI := hK.1
  have hP := hK.2.1
  have hH := hI.1.1
  obtain ⟨⟨g0a, g0b⟩, ⟨g1a, g1b⟩, ⟨g6a, g6b⟩, ⟨g7a, g7b⟩, ⟨g8a, g8b⟩⟩ := hH
  have hB : B ≤ 43920000000 := by omega
  have hB6 : B + 360000000 ≤ 43920000000 := by omega
  have h9a := hK.2.2.1
  have h9b := hK.2.2.2
  have h9 : 0 ≤ (f 9).toInt ∧ (f 9).toInt < 4611686018427387000 := ⟨h9a, by omega⟩
  refine jj_aload_n C dX11_merge_0 rfl ?_
  refine jj_iconst (v := 0) C dX11_merge_1 (by decide) ?_
  refine rl_put C hok jk_12 7 (by decide) jw_0a65e3738e (t := (0, (-2147483648), 2147483647)) hk0 (by decide) rfl rfl rfl (tt_ia (0 : Int32)) rfl rfl dX11_merge_2 (fun pl_1 hok_2 tr hn tl => ?_)
  replace hs6 := tr _ _ _ (Or.inr (by decide)) hs6
  have hf_3 := hn
  replace hm := hm.put tr (by decide)
  replace hfr := hfr.put hk0 tr (by decide)
  replace hC := tl _ _ hC
  replace hCp := tl _ _ hCp
  replace hfa := hfa.all tl
  refine jj_aload_n C dX11_merge_5 rfl ?_
  obtain ⟨qc, gs, hqc⟩ := tt_recv (cx := []) hok_2 hk0 (by decide) rfl
  refine tt_callV (rest := []) C (rs_remember hl D cA ak n6 B C9 f P hk0 hkw hka hkt hki hkf hkp (by first | omega | decide) (by first | omega | decide) hK hHP hok_2 hm hC hCp hs6) [] [] rfl rfl (by decide) (by decide) (by decide) qc hqc rfl rfl jw_3b6f5db06c jw_215a43d218 jw_543635bfa3 jw_f96c99f44d jw_041a43c133 jn_X11_remember rfl (jj_le rfl) (jj_le rfl) (jj_le rfl) (jj_le rfl) (jj_le rfl) dX11_merge_6 rfl (fun _ _ _ hX => hX.elim) (fun rx pl_4 r O_8 => ?_)
  obtain ⟨rfl, hok_5, hr_6, ha_7, hR_9⟩ := O_8
  replace hf_3 := hr_6.at hk0 (by decide) (by decide) hf_3
  replace hC := ha_7.at hkw (by decide) (by decide) hC
  replace hm := hm.fr hr_6 hk0 rfl
  replace hfr := hfr.trans (hr_6.sub (by decide))
  replace hfa := hfa.trans (ha_7.sub (by decide))
  obtain ⟨g_10, n_11, hC_12, hf_13, hn_14, hQ_15, rfl⟩ := hR_9
  refine jj_aload_n C dX11_merge_9 rfl ?_
  obtain ⟨qc, gs, hqc⟩ := tt_recv (cx := []) hok_5 hk0 (by decide) rfl
  refine tt_callV (rest := []) C (rs_mergeAll hl D cA ak B f hk0 hkw hka hkt hki hkf hkp hI hP (by omega) hok_5 hm hC) [] [] rfl rfl (by decide) (by decide) (by decide) qc hqc rfl rfl jw_c2961d41c3 jw_cba6ce7d79 jw_ec77e1d55c jw_f96c99f44d jw_2b00fc14d7 jn_X11_mergeAll rfl (jj_le rfl) (jj_le rfl) (jj_le rfl) (jj_le rfl) (jj_le rfl) dX11_merge_10 rfl (fun _ _ _ hX => hX.elim) (fun rx pl_16 r O_20 => ?_)
  obtain ⟨rfl, hok_17, hr_18, ha_19, hR_21⟩ := O_20
  replace hf_3 := hr_18.at hk0 (by decide) (by decide) hf_3
  replace hf_13 := hr_18.at hk0 (by decide) (by decide) hf_13
  replace hC_12 := ha_19.at hkp (by decide) (by decide) hC_12
  replace hm := hm.fr hr_18 hk0 rfl
  replace hfr := hfr.trans (hr_18.sub (by decide))
  replace hfa := hfa.trans (ha_19.sub (by decide))
  obtain ⟨g_22, hC_23, hI_24, hP_25, hq_26, hq_27, x_28, rfl⟩ := hR_21
  obtain ⟨⟨g0ag_22, g0bg_22⟩, ⟨g1ag_22, g1bg_22⟩, ⟨g6ag_22, g6bg_22⟩, ⟨g7ag_22, g7bg_22⟩, ⟨g8ag_22, g8bg_22⟩⟩ := hI_24.1.1
  exact jj_iret C ⟨[], pl_16, rfl, rfl, hok_17, hfr, hfa, ⟨⟨_, _, n_11, hC_23, hC_12, hf_13, (by omega), ⟨hI_24.mono (by omega), hP_25, (by have q9 := congrArg Int64.toInt (hq_27 9 (by omega)); omega)⟩, hQ_15.mono (by omega) (by omega)⟩, x_28, rfl⟩⟩ dX11_merge_13 (jj_le rfl) (jj_le rfl)

set_option maxHeartbeats 4000000 in
set_option maxRecDepth 100000 in
theorem rs_setGate {l : Launch} (hl : l.stackTraces = false) (D : va_G) (cA : Nat → ClassId) (ak : (Nat → Nat) × (Nat → Nat)) {Kd : Nat → Nat} {h0 aw aa at0 ai af ap : Nat} (n6 : Nat) (p1 : Int32) (B C9 : Int) (f P : Nat → Int64) (hk0 : Kd h0 = 1) (hkw : Kd aw = 2) (hka : Kd aa = 3) (hkt : Kd at0 = 4) (hki : Kd ai = 5) (hkf : Kd af = 6) (hkp : Kd ap = 7) (ln6 : (0 : Int) ≤ (n6 : Int)) (un6 : (n6 : Int) ≤ 10) (hK : rl_K B C9 f) (hHP : rl_HP B C9 P n6) (hB5 : B ≤ 43520000000) (hB0 : 12760000000 ≤ B) (hC9 : 0 ≤ C9 ∧ C9 ≤ 4000000000000000000) {pl0 : va_W} (hok : tt_ok rt_tk cA Kd pl0) (hm : rl_m pl0 h0 aw aa at0 ai af ap) (hC : tt_lc pl0 aw f) (hCp : tt_lc pl0 ap P) (hs6 : tt_at pl0 h0 6 (.int (nI n6))) : jj_M l D cA ak yX11_setGate (.code yX11_setGate cX11_setGate 3 (some .int)) 2 42 0 0 ([] ++ pl0) [.ref h0, .int p1] (tt_O (fun rx pl1 r => rx = [] ∧ tt_ok rt_tk cA Kd pl1 ∧ tt_fr Kd [(1, 6), (1, 7)] pl0 pl1 ∧ tt_fa Kd [2, 3, 7] pl0 pl1 ∧ ((rl_M (B + 30000000) (C9 + 2000) pl1 h0 aw ap ∧ ∃ v : Int32, r = some (.int v))))) (tt_OX (fun _ _ _ => False)) := by
  refine jj_start hl (by decide) jw_aaefcbbf36 (jj_le rfl) ?_
  intro p e s m args below meth c A hargs hA C hex hmn
  have hfr := tt_fr.refl (K := Kd) (WS := [(1, 6), (1, 7)]) pl0
  have hfa := tt_fa.refl (K := Kd) (WA := [2, 3, 7]) pl0
  have hI := hK.1
  have hP := hK.2.1
  have hH := hI.1.1
  obtain ⟨⟨g0a, g0b⟩, ⟨g1a, g1b⟩, ⟨g6a, g6b⟩, ⟨g7a, g7b⟩, ⟨g8a, g8b⟩⟩ := hH
  have hB : B ≤ 43920000000 := by omega
  have hB6 : B + 360000000 ≤ 43920000000 := by omega
  have h9a := hK.2.2.1
  have h9b := hK.2.2.2
  have h9 : 0 ≤ (f 9).toInt ∧ (f 9).toInt < 4611686018427387000 := ⟨h9a, by omega⟩
  have lp1 := tt_lo p1
  have up1 := tt_hi p1
  refine jj_aload_n C dX11_setGate_0 rfl ?_
  refine jj_iload_n C dX11_setGate_1 rfl ?_
  obtain ⟨y_1, ey_1, vy_1⟩ := tt_i2l p1
  refine jj_i2l (v := y_1) C dX11_setGate_2 ey_1 ?_
  refine jj_lconst (v := 1) C dX11_setGate_3 (by decide) ?_
  refine jj_ldc2 (v := 100) C dX11_setGate_4 jw_0cface3231 ?_
  refine tt_call0S (rest := [.ref h0]) C (ct_X11_in_s8 hl D cA ak y_1) jw_2a24feddee jw_12f28ccfda jw_f96c99f44d jw_e07c9ada56 jn_X11_in rfl (jj_le rfl) (jj_le rfl) (jj_le rfl) (jj_le rfl) (jj_le rfl) dX11_setGate_7 rfl (fun w1 r O_2 => ?_)
  rcases O_2 with ⟨c_3, -, rfl⟩ | ⟨c_4, c_5, -, rfl⟩ | ⟨c_6, c_7, -, rfl⟩
  · have z_c_3 := jc_ltL (a := y_1.toInt) (b := 1) c_3 rfl (by decide)
    refine jj_if_neF (tgt := 17) C dX11_setGate_10 (by decide) (by decide) ?_
    refine jj_iconst (v := 1) C dX11_setGate_13 (by decide) ?_
    refine jj_goto (tgt := 18) C dX11_setGate_14 (by decide) ?_
    refine jj_iconst (v := 1) C dX11_setGate_18 (by decide) ?_
    obtain ⟨qc, gs, hqc⟩ := tt_recv (cx := []) hok hk0 (by decide) rfl
    refine tt_callV (rest := []) C (rc_X11_fails_f00e4f hl D cA ak hk0 hkw hka hkt hki hkf hkp hok hm) [] [] rfl rfl (by decide) (by decide) (by decide) qc hqc rfl rfl jw_9c28fd2e32 jw_193b10eb43 jw_69bbe80566 jw_f96c99f44d jw_a520512e18 jn_X11_fails rfl (jj_le rfl) (jj_le rfl) (jj_le rfl) (jj_le rfl) (jj_le rfl) dX11_setGate_19 rfl (fun _ _ _ hX => hX.elim) (fun rx pl_8 r O_12 => ?_)
    obtain ⟨rfl, hok_9, hr_10, ha_11, hR_13⟩ := O_12
    replace hs6 := hr_10.at hk0 (by decide) (by decide) hs6
    replace hC := ha_11.at hkw (by decide) (by decide) hC
    replace hCp := ha_11.at hkp (by decide) (by decide) hCp
    replace hm := hm.fr hr_10 hk0 rfl
    replace hfr := hfr.trans (hr_10.sub (by decide))
    replace hfa := hfa.trans (ha_11.sub (by decide))
    obtain rfl := hR_13
    refine jj_if_eqF (tgt := 27) C dX11_setGate_22 (by decide) (by decide) ?_
    refine jj_iconst (v := 0) C dX11_setGate_25 (by decide) ?_
    exact jj_iret C ⟨[], pl_8, rfl, rfl, hok_9, hfr, hfa, ⟨⟨_, _, n6, hC, hCp, hs6, (by omega), (hK.mono (by omega) (by omega)), hHP.mono (by omega) (by omega)⟩, (0 : Int32), rfl⟩⟩ dX11_setGate_26 (jj_le rfl) (jj_le rfl)
  · have z_c_4 := jc_nltL (a := y_1.toInt) (b := 1) c_4 rfl (by decide)
    have z_c_5 := jc_ltL (a := 100) (b := y_1.toInt) c_5 (by decide) rfl
    refine jj_if_neF (tgt := 17) C dX11_setGate_10 (by decide) (by decide) ?_
    refine jj_iconst (v := 1) C dX11_setGate_13 (by decide) ?_
    refine jj_goto (tgt := 18) C dX11_setGate_14 (by decide) ?_
    refine jj_iconst (v := 1) C dX11_setGate_18 (by decide) ?_
    obtain ⟨qc, gs, hqc⟩ := tt_recv (cx := []) hok hk0 (by decide) rfl
    refine tt_callV (rest := []) C (rc_X11_fails_f00e4f hl D cA ak hk0 hkw hka hkt hki hkf hkp hok hm) [] [] rfl rfl (by decide) (by decide) (by decide) qc hqc rfl rfl jw_9c28fd2e32 jw_193b10eb43 jw_69bbe80566 jw_f96c99f44d jw_a520512e18 jn_X11_fails rfl (jj_le rfl) (jj_le rfl) (jj_le rfl) (jj_le rfl) (jj_le rfl) dX11_setGate_19 rfl (fun _ _ _ hX => hX.elim) (fun rx pl_14 r O_18 => ?_)
    obtain ⟨rfl, hok_15, hr_16, ha_17, hR_19⟩ := O_18
    replace hs6 := hr_16.at hk0 (by decide) (by decide) hs6
    replace hC := ha_17.at hkw (by decide) (by decide) hC
    replace hCp := ha_17.at hkp (by decide) (by decide) hCp
    replace hm := hm.fr hr_16 hk0 rfl
    replace hfr := hfr.trans (hr_16.sub (by decide))
    replace hfa := hfa.trans (ha_17.sub (by decide))
    obtain rfl := hR_19
    refine jj_if_eqF (tgt := 27) C dX11_setGate_22 (by decide) (by decide) ?_
    refine jj_iconst (v := 0) C dX11_setGate_25 (by decide) ?_
    exact jj_iret C ⟨[], pl_14, rfl, rfl, hok_15, hfr, hfa, ⟨⟨_, _, n6, hC, hCp, hs6, (by omega), (hK.mono (by omega) (by omega)), hHP.mono (by omega) (by omega)⟩, (0 : Int32), rfl⟩⟩ dX11_setGate_26 (jj_le rfl) (jj_le rfl)
  · have z_c_6 := jc_nltL (a := y_1.toInt) (b := 1) c_6 rfl (by decide)
    have z_c_7 := jc_nltL (a := 100) (b := y_1.toInt) c_7 (by decide) rfl
    refine jj_if_neT (tgt := 17) C dX11_setGate_10 (by decide) (by decide) ?_
    refine jj_iconst (v := 0) C dX11_setGate_17 (by decide) ?_
    refine jj_iconst (v := 1) C dX11_setGate_18 (by decide) ?_
    obtain ⟨qc, gs, hqc⟩ := tt_recv (cx := []) hok hk0 (by decide) rfl
    refine tt_callV (rest := []) C (rc_X11_fails_8f9520 hl D cA ak hk0 hkw hka hkt hki hkf hkp hok hm) [] [] rfl rfl (by decide) (by decide) (by decide) qc hqc rfl rfl jw_9c28fd2e32 jw_193b10eb43 jw_69bbe80566 jw_f96c99f44d jw_a520512e18 jn_X11_fails rfl (jj_le rfl) (jj_le rfl) (jj_le rfl) (jj_le rfl) (jj_le rfl) dX11_setGate_19 rfl (fun _ _ _ hX => hX.elim) (fun rx pl_20 r O_24 => ?_)
    obtain ⟨rfl, hok_21, hr_22, ha_23, hR_25⟩ := O_24
    replace hs6 := hr_22.at hk0 (by decide) (by decide) hs6
    replace hC := ha_23.at hkw (by decide) (by decide) hC
    replace hCp := ha_23.at hkp (by decide) (by decide) hCp
    replace hm := hm.fr hr_22 hk0 rfl
    replace hfr := hfr.trans (hr_22.sub (by decide))
    replace hfa := hfa.trans (ha_23.sub (by decide))
    obtain rfl := hR_25
    refine jj_if_eqT (tgt := 27) C dX11_setGate_22 (by decide) (by decide) ?_
    refine jj_aload_n C dX11_setGate_27 rfl ?_
    obtain ⟨qc, gs, hqc⟩ := tt_recv (cx := []) hok_21 hk0 (by decide) rfl
    refine tt_callV (rest := []) C (rs_remember hl D cA ak n6 B C9 f P hk0 hkw hka hkt hki hkf hkp (by first | omega | decide) (by first | omega | decide) hK hHP hok_21 hm hC hCp hs6) [] [] rfl rfl (by decide) (by decide) (by decide) qc hqc rfl rfl jw_3b6f5db06c jw_215a43d218 jw_543635bfa3 jw_f96c99f44d jw_041a43c133 jn_X11_remember rfl (jj_le rfl) (jj_le rfl) (jj_le rfl) (jj_le rfl) (jj_le rfl) dX11_setGate_28 rfl (fun _ _ _ hX => hX.elim) (fun rx pl_26 r O_30 => ?_)
    obtain ⟨rfl, hok_27, hr_28, ha_29, hR_31⟩ := O_30
    replace hC := ha_29.at hkw (by decide) (by decide) hC
    replace hm := hm.fr hr_28 hk0 rfl
    replace hfr := hfr.trans (hr_28.sub (by decide))
    replace hfa := hfa.trans (ha_29.sub (by decide))
    obtain ⟨g_32, n_33, hC_34, hf_35, hn_36, hQ_37, rfl⟩ := hR_31
    refine jj_aload_n C dX11_setGate_31 rfl ?_
    refine tt_getF C hok_27 jk_12 0 (by decide) jw_34eaf3ba8b (t := (2, 2, 0)) hk0 (by decide) rfl rfl hm.1 dX11_setGate_32 ?_
    refine jj_iconst (v := 4) C dX11_setGate_35 (by decide) ?_
    refine rl_lald C hok_27 (t := (1, (-9223372036854775808), 9223372036854775807)) hkw (by decide) rfl (k := 4) (v := (f 4)) (vp_in_iff.mpr (by decide)) hC (by decide) rfl dX11_setGate_36 ?_
    obtain ⟨x_38, ex_38⟩ : ∃ z : Int32, (f 4).toInt32 = z := ⟨_, rfl⟩
    refine jj_l2i (v := x_38) C dX11_setGate_37 ex_38 ?_
    refine jj_istore_n C dX11_setGate_38 (by decide) rfl ?_
    refine jj_aload_n C dX11_setGate_39 rfl ?_
    refine tt_getF C hok_27 jk_12 0 (by decide) jw_34eaf3ba8b (t := (2, 2, 0)) hk0 (by decide) rfl rfl hm.1 dX11_setGate_40 ?_
    refine jj_iconst (v := 4) C dX11_setGate_43 (by decide) ?_
    refine jj_iload_n C dX11_setGate_44 rfl ?_
    obtain ⟨y_39, ey_39, vy_39⟩ := tt_i2l p1
    refine jj_i2l (v := y_39) C dX11_setGate_45 ey_39 ?_
    refine rl_last C hok_27 (t := (1, (-9223372036854775808), 9223372036854775807)) hkw (by decide) rfl (k := 4) (vp_in_iff.mpr (by decide)) (tt_ja _) (by decide) dX11_setGate_46 (fun pl_40 hok_41 tr tl tw => ?_)
    replace hf_35 := tr _ _ _ hf_35
    replace hm := hm.arr tr
    replace hfr := hfr.arr tr
    replace hC := tw _ hC
    replace hC_34 := tl _ _ (tt_ne hkp hkw (by decide)) hC_34
    replace hfa := hfa.wr hkw tl (by decide)
    refine jj_iload_n C dX11_setGate_47 rfl ?_
    exact jj_iret C ⟨[], pl_40, rfl, rfl, hok_41, hfr, hfa, ⟨⟨_, _, n_33, hC, hC_34, hf_35, (by omega), ((hK.gate (by omega)).mono (by omega) (by omega)), hQ_37.mono (by omega) (by omega)⟩, x_38, rfl⟩⟩ dX11_setGate_48 (jj_le rfl) (jj_le rfl)

set_option maxHeartbeats 4000000 in
set_option maxRecDepth 100000 in
theorem rs_transfer {l : Launch} (hl : l.stackTraces = false) (D : va_G) (cA : Nat → ClassId) (ak : (Nat → Nat) × (Nat → Nat)) {Kd : Nat → Nat} {h0 aw aa at0 ai af ap : Nat} (n6 : Nat) (p1 : Int32) (p2 : Int32) (p3 : Int32) (B C9 : Int) (f P : Nat → Int64) (hk0 : Kd h0 = 1) (hkw : Kd aw = 2) (hka : Kd aa = 3) (hkt : Kd at0 = 4) (hki : Kd ai = 5) (hkf : Kd af = 6) (hkp : Kd ap = 7) (ln6 : (0 : Int) ≤ (n6 : Int)) (un6 : (n6 : Int) ≤ 10) (hK : rl_K B C9 f) (hHP : rl_HP B C9 P n6) (hB5 : B ≤ 43520000000) (hB0 : 12760000000 ≤ B) (hC9 : 0 ≤ C9 ∧ C9 ≤ 4000000000000000000) {pl0 : va_W} (hok : tt_ok rt_tk cA Kd pl0) (hm : rl_m pl0 h0 aw aa at0 ai af ap) (hC : tt_lc pl0 aw f) (hCp : tt_lc pl0 ap P) (hs6 : tt_at pl0 h0 6 (.int (nI n6))) : jj_M l D cA ak yX11_transfer (.code yX11_transfer cX11_transfer 11 (some .long)) 4 87 0 0 ([] ++ pl0) [.ref h0, .int p1, .int p2, .int p3] (tt_O (fun rx pl1 r => rx = [] ∧ tt_ok rt_tk cA Kd pl1 ∧ tt_fr Kd [(1, 6), (1, 7)] pl0 pl1 ∧ tt_fa Kd [2, 3, 7] pl0 pl1 ∧ ((rl_M (B + 30000000) (C9 + 2000) pl1 h0 aw ap ∧ ∃ v : Int64, r = some (.long v))))) (tt_OX (fun _ _ _ => False)) := by
  refine jj_start hl (by decide) jw_8070232b3c (jj_le rfl) ?_
  intro p e s m args below meth c A hargs hA C hex hmn
  have hfr := tt_fr.refl (K := Kd) (WS := [(1, 6), (1, 7)]) pl0
  have hfa := tt_fa.refl (K := Kd) (WA := [2, 3, 7]) pl0
  have hI := hK.1
  have hP := hK.2.1
  have hH := hI.1.1
  obtain ⟨⟨g0a, g0b⟩, ⟨g1a, g1b⟩, ⟨g6a, g6b⟩, ⟨g7a, g7b⟩, ⟨g8a, g8b⟩⟩ := hH
  have hB : B ≤ 43920000000 := by omega
  have hB6 : B + 360000000 ≤ 43920000000 := by omega
  have h9a := hK.2.2.1
  have h9b := hK.2.2.2
  have h9 : 0 ≤ (f 9).toInt ∧ (f 9).toInt < 4611686018427387000 := ⟨h9a, by omega⟩
  have lp1 := tt_lo p1
  have up1 := tt_hi p1
  have lp2 := tt_lo p2
  have up2 := tt_hi p2
  have lp3 := tt_lo p3
  have up3 := tt_hi p3
  refine jj_aload_n C dX11_transfer_0 rfl ?_
  refine jj_aload_n C dX11_transfer_1 rfl ?_
  refine jj_iload_n C dX11_transfer_2 rfl ?_
  obtain ⟨qc, gs, hqc⟩ := tt_recv (cx := []) hok hk0 (by decide) rfl
  refine tt_callV (rest := [.ref h0]) C (rc_X11_isInvestor_d8d95c hl D cA ak p1 _ hk0 hkw hka hkt hki hkf hkp ⟨⟨g0a, g0b⟩, ⟨g1a, g1b⟩, ⟨g6a, g6b⟩, ⟨g7a, g7b⟩, ⟨g8a, g8b⟩⟩ hok hm hC) [] [] rfl rfl (by decide) (by decide) (by decide) qc hqc rfl rfl jw_7ef37939ff jw_26aeef849b jw_c47596b272 jw_f96c99f44d jw_eb28ea56ae jn_X11_isInvestor rfl (jj_le rfl) (jj_le rfl) (jj_le rfl) (jj_le rfl) (jj_le rfl) dX11_transfer_3 rfl (fun _ _ _ hX => hX.elim) (fun rx pl_1 r O_5 => ?_)
  obtain ⟨rfl, hok_2, hr_3, ha_4, hR_6⟩ := O_5
  replace hs6 := hr_3.at hk0 (by decide) (by decide) hs6
  replace hC := ha_4.at hkw (by decide) (by decide) hC
  replace hCp := ha_4.at hkp (by decide) (by decide) hCp
  replace hm := hm.fr hr_3 hk0 rfl
  replace hfr := hfr.trans (hr_3.sub (by decide))
  replace hfa := hfa.trans (ha_4.sub (by decide))
  rcases hR_6 with rfl | ⟨l_7, u_8, rfl⟩
  · refine jj_if_eqT (tgt := 17) C dX11_transfer_6 (by decide) (by decide) ?_
    refine jj_iconst (v := 1) C dX11_transfer_17 (by decide) ?_
    refine jj_goto (tgt := 22) C dX11_transfer_18 (by decide) ?_
    refine jj_iconst (v := 1) C dX11_transfer_22 (by decide) ?_
    obtain ⟨qc, gs, hqc⟩ := tt_recv (cx := []) hok_2 hk0 (by decide) rfl
    refine tt_callV (rest := []) C (rc_X11_fails_f00e4f hl D cA ak hk0 hkw hka hkt hki hkf hkp hok_2 hm) [] [] rfl rfl (by decide) (by decide) (by decide) qc hqc rfl rfl jw_9c28fd2e32 jw_193b10eb43 jw_69bbe80566 jw_f96c99f44d jw_a520512e18 jn_X11_fails rfl (jj_le rfl) (jj_le rfl) (jj_le rfl) (jj_le rfl) (jj_le rfl) dX11_transfer_23 rfl (fun _ _ _ hX => hX.elim) (fun rx pl_9 r O_13 => ?_)
    obtain ⟨rfl, hok_10, hr_11, ha_12, hR_14⟩ := O_13
    replace hs6 := hr_11.at hk0 (by decide) (by decide) hs6
    replace hC := ha_12.at hkw (by decide) (by decide) hC
    replace hCp := ha_12.at hkp (by decide) (by decide) hCp
    replace hm := hm.fr hr_11 hk0 rfl
    replace hfr := hfr.trans (hr_11.sub (by decide))
    replace hfa := hfa.trans (ha_12.sub (by decide))
    obtain rfl := hR_14
    refine jj_if_neT (tgt := 68) C dX11_transfer_26 (by decide) (by decide) ?_
    refine jj_lconst (v := 0) C dX11_transfer_68 (by decide) ?_
    exact jj_lret C ⟨[], pl_9, rfl, rfl, hok_10, hfr, hfa, ⟨⟨_, _, n6, hC, hCp, hs6, (by omega), (hK.mono (by omega) (by omega)), hHP.mono (by omega) (by omega)⟩, (0 : Int64), rfl⟩⟩ dX11_transfer_69 (jj_le rfl) (jj_le rfl)
  · refine jj_if_eqF (tgt := 17) C dX11_transfer_6 (by decide) (by decide) ?_
    refine jj_aload_n C dX11_transfer_9 rfl ?_
    refine jj_iload_n C dX11_transfer_10 rfl ?_
    obtain ⟨qc, gs, hqc⟩ := tt_recv (cx := []) hok_2 hk0 (by decide) rfl
    refine tt_callV (rest := [.ref h0]) C (rc_X11_isInvestor_d8d95c hl D cA ak p2 _ hk0 hkw hka hkt hki hkf hkp ⟨⟨g0a, g0b⟩, ⟨g1a, g1b⟩, ⟨g6a, g6b⟩, ⟨g7a, g7b⟩, ⟨g8a, g8b⟩⟩ hok_2 hm hC) [] [] rfl rfl (by decide) (by decide) (by decide) qc hqc rfl rfl jw_7ef37939ff jw_26aeef849b jw_c47596b272 jw_f96c99f44d jw_eb28ea56ae jn_X11_isInvestor rfl (jj_le rfl) (jj_le rfl) (jj_le rfl) (jj_le rfl) (jj_le rfl) dX11_transfer_11 rfl (fun _ _ _ hX => hX.elim) (fun rx pl_15 r O_19 => ?_)
    obtain ⟨rfl, hok_16, hr_17, ha_18, hR_20⟩ := O_19
    replace hs6 := hr_17.at hk0 (by decide) (by decide) hs6
    replace hC := ha_18.at hkw (by decide) (by decide) hC
    replace hCp := ha_18.at hkp (by decide) (by decide) hCp
    replace hm := hm.fr hr_17 hk0 rfl
    replace hfr := hfr.trans (hr_17.sub (by decide))
    replace hfa := hfa.trans (ha_18.sub (by decide))
    rcases hR_20 with rfl | ⟨l_21, u_22, rfl⟩
    · refine jj_if_neF (tgt := 21) C dX11_transfer_14 (by decide) (by decide) ?_
      refine jj_iconst (v := 1) C dX11_transfer_17 (by decide) ?_
      refine jj_goto (tgt := 22) C dX11_transfer_18 (by decide) ?_
      refine jj_iconst (v := 1) C dX11_transfer_22 (by decide) ?_
      obtain ⟨qc, gs, hqc⟩ := tt_recv (cx := []) hok_16 hk0 (by decide) rfl
      refine tt_callV (rest := []) C (rc_X11_fails_f00e4f hl D cA ak hk0 hkw hka hkt hki hkf hkp hok_16 hm) [] [] rfl rfl (by decide) (by decide) (by decide) qc hqc rfl rfl jw_9c28fd2e32 jw_193b10eb43 jw_69bbe80566 jw_f96c99f44d jw_a520512e18 jn_X11_fails rfl (jj_le rfl) (jj_le rfl) (jj_le rfl) (jj_le rfl) (jj_le rfl) dX11_transfer_23 rfl (fun _ _ _ hX => hX.elim) (fun rx pl_23 r O_27 => ?_)
      obtain ⟨rfl, hok_24, hr_25, ha_26, hR_28⟩ := O_27
      replace hs6 := hr_25.at hk0 (by decide) (by decide) hs6
      replace hC := ha_26.at hkw (by decide) (by decide) hC
      replace hCp := ha_26.at hkp (by decide) (by decide) hCp
      replace hm := hm.fr hr_25 hk0 rfl
      replace hfr := hfr.trans (hr_25.sub (by decide))
      replace hfa := hfa.trans (ha_26.sub (by decide))
      obtain rfl := hR_28
      refine jj_if_neT (tgt := 68) C dX11_transfer_26 (by decide) (by decide) ?_
      refine jj_lconst (v := 0) C dX11_transfer_68 (by decide) ?_
      exact jj_lret C ⟨[], pl_23, rfl, rfl, hok_24, hfr, hfa, ⟨⟨_, _, n6, hC, hCp, hs6, (by omega), (hK.mono (by omega) (by omega)), hHP.mono (by omega) (by omega)⟩, (0 : Int64), rfl⟩⟩ dX11_transfer_69 (jj_le rfl) (jj_le rfl)
    · refine jj_if_neT (tgt := 21) C dX11_transfer_14 (by decide) (by decide) ?_
      refine jj_iconst (v := 0) C dX11_transfer_21 (by decide) ?_
      refine jj_iconst (v := 1) C dX11_transfer_22 (by decide) ?_
      obtain ⟨qc, gs, hqc⟩ := tt_recv (cx := []) hok_16 hk0 (by decide) rfl
      refine tt_callV (rest := []) C (rc_X11_fails_8f9520 hl D cA ak hk0 hkw hka hkt hki hkf hkp hok_16 hm) [] [] rfl rfl (by decide) (by decide) (by decide) qc hqc rfl rfl jw_9c28fd2e32 jw_193b10eb43 jw_69bbe80566 jw_f96c99f44d jw_a520512e18 jn_X11_fails rfl (jj_le rfl) (jj_le rfl) (jj_le rfl) (jj_le rfl) (jj_le rfl) dX11_transfer_23 rfl (fun _ _ _ hX => hX.elim) (fun rx pl_29 r O_33 => ?_)
      obtain ⟨rfl, hok_30, hr_31, ha_32, hR_34⟩ := O_33
      replace hs6 := hr_31.at hk0 (by decide) (by decide) hs6
      replace hC := ha_32.at hkw (by decide) (by decide) hC
      replace hCp := ha_32.at hkp (by decide) (by decide) hCp
      replace hm := hm.fr hr_31 hk0 rfl
      replace hfr := hfr.trans (hr_31.sub (by decide))
      replace hfa := hfa.trans (ha_32.sub (by decide))
      obtain rfl := hR_34
      refine jj_if_neF (tgt := 68) C dX11_transfer_26 (by decide) (by decide) ?_
      refine jj_aload_n C dX11_transfer_29 rfl ?_
      refine jj_iload_n C dX11_transfer_30 rfl ?_
      refine jj_iload_n C dX11_transfer_31 rfl ?_
      refine jj_icmp_eq (tgt := 42) C dX11_transfer_32 (by decide) (fun c_35 => ?_) (fun c_35 => ?_)
      · have z_c_35 := jc_eq (a := p1.toInt) (b := p2.toInt) c_35 rfl rfl
        refine jj_iconst (v := 1) C dX11_transfer_42 (by decide) ?_
        refine jj_goto (tgt := 47) C dX11_transfer_43 (by decide) ?_
        refine jj_iconst (v := 2) C dX11_transfer_47 (by decide) ?_
        obtain ⟨qc, gs, hqc⟩ := tt_recv (cx := []) hok_30 hk0 (by decide) rfl
        refine tt_callV (rest := []) C (rc_X11_fails_685228 hl D cA ak hk0 hkw hka hkt hki hkf hkp hok_30 hm) [] [] rfl rfl (by decide) (by decide) (by decide) qc hqc rfl rfl jw_9c28fd2e32 jw_193b10eb43 jw_69bbe80566 jw_f96c99f44d jw_a520512e18 jn_X11_fails rfl (jj_le rfl) (jj_le rfl) (jj_le rfl) (jj_le rfl) (jj_le rfl) dX11_transfer_48 rfl (fun _ _ _ hX => hX.elim) (fun rx pl_36 r O_40 => ?_)
        obtain ⟨rfl, hok_37, hr_38, ha_39, hR_41⟩ := O_40
        replace hs6 := hr_38.at hk0 (by decide) (by decide) hs6
        replace hC := ha_39.at hkw (by decide) (by decide) hC
        replace hCp := ha_39.at hkp (by decide) (by decide) hCp
        replace hm := hm.fr hr_38 hk0 rfl
        replace hfr := hfr.trans (hr_38.sub (by decide))
        replace hfa := hfa.trans (ha_39.sub (by decide))
        obtain rfl := hR_41
        refine jj_if_neT (tgt := 68) C dX11_transfer_51 (by decide) (by decide) ?_
        refine jj_lconst (v := 0) C dX11_transfer_68 (by decide) ?_
        exact jj_lret C ⟨[], pl_36, rfl, rfl, hok_37, hfr, hfa, ⟨⟨_, _, n6, hC, hCp, hs6, (by omega), (hK.mono (by omega) (by omega)), hHP.mono (by omega) (by omega)⟩, (0 : Int64), rfl⟩⟩ dX11_transfer_69 (jj_le rfl) (jj_le rfl)
      · have z_c_35 := jc_neq (a := p1.toInt) (b := p2.toInt) c_35 rfl rfl
        refine jj_iload_n C dX11_transfer_35 rfl ?_
        refine tt_call0S (rest := [.ref h0]) C (ct_X11_isUnits_s1 hl D cA ak p3) jw_f563dbedcf jw_df0ae9c2de jw_f96c99f44d jw_65c6480382 jn_X11_isUnits rfl (jj_le rfl) (jj_le rfl) (jj_le rfl) (jj_le rfl) (jj_le rfl) dX11_transfer_36 rfl (fun w1 r O_42 => ?_)
        rcases O_42 with ⟨c_43, -, rfl⟩ | ⟨c_44, c_45, -, rfl⟩ | ⟨c_46, c_47, -, rfl⟩
        · have z_c_43 := jc_ltL (a := p3.toInt) (b := 1) c_43 (Int32.toInt_toInt64 p3) (by decide)
          refine jj_if_neF (tgt := 46) C dX11_transfer_39 (by decide) (by decide) ?_
          refine jj_iconst (v := 1) C dX11_transfer_42 (by decide) ?_
          refine jj_goto (tgt := 47) C dX11_transfer_43 (by decide) ?_
          refine jj_iconst (v := 2) C dX11_transfer_47 (by decide) ?_
          obtain ⟨qc, gs, hqc⟩ := tt_recv (cx := []) hok_30 hk0 (by decide) rfl
          refine tt_callV (rest := []) C (rc_X11_fails_685228 hl D cA ak hk0 hkw hka hkt hki hkf hkp hok_30 hm) [] [] rfl rfl (by decide) (by decide) (by decide) qc hqc rfl rfl jw_9c28fd2e32 jw_193b10eb43 jw_69bbe80566 jw_f96c99f44d jw_a520512e18 jn_X11_fails rfl (jj_le rfl) (jj_le rfl) (jj_le rfl) (jj_le rfl) (jj_le rfl) dX11_transfer_48 rfl (fun _ _ _ hX => hX.elim) (fun rx pl_48 r O_52 => ?_)
          obtain ⟨rfl, hok_49, hr_50, ha_51, hR_53⟩ := O_52
          replace hs6 := hr_50.at hk0 (by decide) (by decide) hs6
          replace hC := ha_51.at hkw (by decide) (by decide) hC
          replace hCp := ha_51.at hkp (by decide) (by decide) hCp
          replace hm := hm.fr hr_50 hk0 rfl
          replace hfr := hfr.trans (hr_50.sub (by decide))
          replace hfa := hfa.trans (ha_51.sub (by decide))
          obtain rfl := hR_53
          refine jj_if_neT (tgt := 68) C dX11_transfer_51 (by decide) (by decide) ?_
          refine jj_lconst (v := 0) C dX11_transfer_68 (by decide) ?_
          exact jj_lret C ⟨[], pl_48, rfl, rfl, hok_49, hfr, hfa, ⟨⟨_, _, n6, hC, hCp, hs6, (by omega), (hK.mono (by omega) (by omega)), hHP.mono (by omega) (by omega)⟩, (0 : Int64), rfl⟩⟩ dX11_transfer_69 (jj_le rfl) (jj_le rfl)
        · have z_c_44 := jc_nltL (a := p3.toInt) (b := 1) c_44 (Int32.toInt_toInt64 p3) (by decide)
          have z_c_45 := jc_ltL (a := 99999999) (b := p3.toInt) c_45 (by decide) (Int32.toInt_toInt64 p3)
          refine jj_if_neF (tgt := 46) C dX11_transfer_39 (by decide) (by decide) ?_
          refine jj_iconst (v := 1) C dX11_transfer_42 (by decide) ?_
          refine jj_goto (tgt := 47) C dX11_transfer_43 (by decide) ?_
          refine jj_iconst (v := 2) C dX11_transfer_47 (by decide) ?_
          obtain ⟨qc, gs, hqc⟩ := tt_recv (cx := []) hok_30 hk0 (by decide) rfl
          refine tt_callV (rest := []) C (rc_X11_fails_685228 hl D cA ak hk0 hkw hka hkt hki hkf hkp hok_30 hm) [] [] rfl rfl (by decide) (by decide) (by decide) qc hqc rfl rfl jw_9c28fd2e32 jw_193b10eb43 jw_69bbe80566 jw_f96c99f44d jw_a520512e18 jn_X11_fails rfl (jj_le rfl) (jj_le rfl) (jj_le rfl) (jj_le rfl) (jj_le rfl) dX11_transfer_48 rfl (fun _ _ _ hX => hX.elim) (fun rx pl_54 r O_58 => ?_)
          obtain ⟨rfl, hok_55, hr_56, ha_57, hR_59⟩ := O_58
          replace hs6 := hr_56.at hk0 (by decide) (by decide) hs6
          replace hC := ha_57.at hkw (by decide) (by decide) hC
          replace hCp := ha_57.at hkp (by decide) (by decide) hCp
          replace hm := hm.fr hr_56 hk0 rfl
          replace hfr := hfr.trans (hr_56.sub (by decide))
          replace hfa := hfa.trans (ha_57.sub (by decide))
          obtain rfl := hR_59
          refine jj_if_neT (tgt := 68) C dX11_transfer_51 (by decide) (by decide) ?_
          refine jj_lconst (v := 0) C dX11_transfer_68 (by decide) ?_
          exact jj_lret C ⟨[], pl_54, rfl, rfl, hok_55, hfr, hfa, ⟨⟨_, _, n6, hC, hCp, hs6, (by omega), (hK.mono (by omega) (by omega)), hHP.mono (by omega) (by omega)⟩, (0 : Int64), rfl⟩⟩ dX11_transfer_69 (jj_le rfl) (jj_le rfl)
        · have z_c_46 := jc_nltL (a := p3.toInt) (b := 1) c_46 (Int32.toInt_toInt64 p3) (by decide)
          have z_c_47 := jc_nltL (a := 99999999) (b := p3.toInt) c_47 (by decide) (Int32.toInt_toInt64 p3)
          refine jj_if_neT (tgt := 46) C dX11_transfer_39 (by decide) (by decide) ?_
          refine jj_iconst (v := 0) C dX11_transfer_46 (by decide) ?_
          refine jj_iconst (v := 2) C dX11_transfer_47 (by decide) ?_
          obtain ⟨qc, gs, hqc⟩ := tt_recv (cx := []) hok_30 hk0 (by decide) rfl
          refine tt_callV (rest := []) C (rc_X11_fails_a6808a hl D cA ak hk0 hkw hka hkt hki hkf hkp hok_30 hm) [] [] rfl rfl (by decide) (by decide) (by decide) qc hqc rfl rfl jw_9c28fd2e32 jw_193b10eb43 jw_69bbe80566 jw_f96c99f44d jw_a520512e18 jn_X11_fails rfl (jj_le rfl) (jj_le rfl) (jj_le rfl) (jj_le rfl) (jj_le rfl) dX11_transfer_48 rfl (fun _ _ _ hX => hX.elim) (fun rx pl_60 r O_64 => ?_)
          obtain ⟨rfl, hok_61, hr_62, ha_63, hR_65⟩ := O_64
          replace hs6 := hr_62.at hk0 (by decide) (by decide) hs6
          replace hC := ha_63.at hkw (by decide) (by decide) hC
          replace hCp := ha_63.at hkp (by decide) (by decide) hCp
          replace hm := hm.fr hr_62 hk0 rfl
          replace hfr := hfr.trans (hr_62.sub (by decide))
          replace hfa := hfa.trans (ha_63.sub (by decide))
          obtain rfl := hR_65
          refine jj_if_neF (tgt := 68) C dX11_transfer_51 (by decide) (by decide) ?_
          refine jj_aload_n C dX11_transfer_54 rfl ?_
          refine jj_aload_n C dX11_transfer_55 rfl ?_
          refine jj_iload_n C dX11_transfer_56 rfl ?_
          refine jj_iload_n C dX11_transfer_57 rfl ?_
          obtain ⟨qc, gs, hqc⟩ := tt_recv (cx := []) hok_61 hk0 (by decide) rfl
          refine tt_callV (rest := [.ref h0]) C (rs_cannotMove hl D cA ak p1 p3 f hk0 hkw hka hkt hki hkf hkp ⟨⟨g0a, g0b⟩, ⟨g1a, g1b⟩, ⟨g6a, g6b⟩, ⟨g7a, g7b⟩, ⟨g8a, g8b⟩⟩ hok_61 hm hC) [] [] rfl rfl (by decide) (by decide) (by decide) qc hqc rfl rfl jw_3bfb7efbf3 jw_d654f57a9e jw_22aff8d432 jw_f96c99f44d jw_185ae12042 jn_X11_cannotMove rfl (jj_le rfl) (jj_le rfl) (jj_le rfl) (jj_le rfl) (jj_le rfl) dX11_transfer_58 rfl (fun _ _ _ hX => hX.elim) (fun rx pl_66 r O_70 => ?_)
          obtain ⟨rfl, hok_67, hr_68, ha_69, hR_71⟩ := O_70
          replace hs6 := hr_68.at hk0 (by decide) (by decide) hs6
          replace hC := ha_69.at hkw (by decide) (by decide) hC
          replace hCp := ha_69.at hkp (by decide) (by decide) hCp
          replace hm := hm.fr hr_68 hk0 rfl
          replace hfr := hfr.trans (hr_68.sub (by decide))
          replace hfa := hfa.trans (ha_69.sub (by decide))
          rcases hR_71 with rfl | ⟨hn_72, rfl⟩
          · refine jj_iconst (v := 3) C dX11_transfer_61 (by decide) ?_
            obtain ⟨qc, gs, hqc⟩ := tt_recv (cx := []) hok_67 hk0 (by decide) rfl
            refine tt_callV (rest := []) C (rc_X11_fails_31621d hl D cA ak hk0 hkw hka hkt hki hkf hkp hok_67 hm) [] [] rfl rfl (by decide) (by decide) (by decide) qc hqc rfl rfl jw_9c28fd2e32 jw_193b10eb43 jw_69bbe80566 jw_f96c99f44d jw_a520512e18 jn_X11_fails rfl (jj_le rfl) (jj_le rfl) (jj_le rfl) (jj_le rfl) (jj_le rfl) dX11_transfer_62 rfl (fun _ _ _ hX => hX.elim) (fun rx pl_73 r O_77 => ?_)
            obtain ⟨rfl, hok_74, hr_75, ha_76, hR_78⟩ := O_77
            replace hs6 := hr_75.at hk0 (by decide) (by decide) hs6
            replace hC := ha_76.at hkw (by decide) (by decide) hC
            replace hCp := ha_76.at hkp (by decide) (by decide) hCp
            replace hm := hm.fr hr_75 hk0 rfl
            replace hfr := hfr.trans (hr_75.sub (by decide))
            replace hfa := hfa.trans (ha_76.sub (by decide))
            obtain rfl := hR_78
            refine jj_if_eqF (tgt := 70) C dX11_transfer_65 (by decide) (by decide) ?_
            refine jj_lconst (v := 0) C dX11_transfer_68 (by decide) ?_
            exact jj_lret C ⟨[], pl_73, rfl, rfl, hok_74, hfr, hfa, ⟨⟨_, _, n6, hC, hCp, hs6, (by omega), (hK.mono (by omega) (by omega)), hHP.mono (by omega) (by omega)⟩, (0 : Int64), rfl⟩⟩ dX11_transfer_69 (jj_le rfl) (jj_le rfl)
          · refine jj_iconst (v := 3) C dX11_transfer_61 (by decide) ?_
            obtain ⟨qc, gs, hqc⟩ := tt_recv (cx := []) hok_67 hk0 (by decide) rfl
            refine tt_callV (rest := []) C (rc_X11_fails_9d5c93 hl D cA ak hk0 hkw hka hkt hki hkf hkp hok_67 hm) [] [] rfl rfl (by decide) (by decide) (by decide) qc hqc rfl rfl jw_9c28fd2e32 jw_193b10eb43 jw_69bbe80566 jw_f96c99f44d jw_a520512e18 jn_X11_fails rfl (jj_le rfl) (jj_le rfl) (jj_le rfl) (jj_le rfl) (jj_le rfl) dX11_transfer_62 rfl (fun _ _ _ hX => hX.elim) (fun rx pl_79 r O_83 => ?_)
            obtain ⟨rfl, hok_80, hr_81, ha_82, hR_84⟩ := O_83
            replace hs6 := hr_81.at hk0 (by decide) (by decide) hs6
            replace hC := ha_82.at hkw (by decide) (by decide) hC
            replace hCp := ha_82.at hkp (by decide) (by decide) hCp
            replace hm := hm.fr hr_81 hk0 rfl
            replace hfr := hfr.trans (hr_81.sub (by decide))
            replace hfa := hfa.trans (ha_82.sub (by decide))
            obtain rfl := hR_84
            refine jj_if_eqT (tgt := 70) C dX11_transfer_65 (by decide) (by decide) ?_
            refine jj_aload_n C dX11_transfer_70 rfl ?_
            obtain ⟨qc, gs, hqc⟩ := tt_recv (cx := []) hok_80 hk0 (by decide) rfl
            refine tt_callV (rest := []) C (rs_remember hl D cA ak n6 B C9 f P hk0 hkw hka hkt hki hkf hkp (by first | omega | decide) (by first | omega | decide) hK hHP hok_80 hm hC hCp hs6) [] [] rfl rfl (by decide) (by decide) (by decide) qc hqc rfl rfl jw_3b6f5db06c jw_215a43d218 jw_543635bfa3 jw_f96c99f44d jw_041a43c133 jn_X11_remember rfl (jj_le rfl) (jj_le rfl) (jj_le rfl) (jj_le rfl) (jj_le rfl) dX11_transfer_71 rfl (fun _ _ _ hX => hX.elim) (fun rx pl_85 r O_89 => ?_)
            obtain ⟨rfl, hok_86, hr_87, ha_88, hR_90⟩ := O_89
            replace hC := ha_88.at hkw (by decide) (by decide) hC
            replace hm := hm.fr hr_87 hk0 rfl
            replace hfr := hfr.trans (hr_87.sub (by decide))
            replace hfa := hfa.trans (ha_88.sub (by decide))
            obtain ⟨g_91, n_92, hC_93, hf_94, hn_95, hQ_96, rfl⟩ := hR_90
            refine jj_iload_n C dX11_transfer_74 rfl ?_
            obtain ⟨y_97, ey_97, vy_97⟩ := tt_i2l p3
            refine jj_i2l (v := y_97) C dX11_transfer_75 ey_97 ?_
            refine jj_lstore C dX11_transfer_76 (by decide) rfl ?_
            refine jj_aload_n C dX11_transfer_78 rfl ?_
            refine tt_getF C hok_86 jk_12 0 (by decide) jw_34eaf3ba8b (t := (2, 2, 0)) hk0 (by decide) rfl rfl hm.1 dX11_transfer_79 ?_
            refine jj_bipush (v := 7) C dX11_transfer_82 (by decide) ?_
            refine rl_lald C hok_86 (t := (1, (-9223372036854775808), 9223372036854775807)) hkw (by decide) rfl (k := 7) (v := (f 7)) (vp_in_iff.mpr (by decide)) hC (by decide) rfl dX11_transfer_84 ?_
            obtain ⟨n_98, en_98, vn_98⟩ := rl_l2i (x := (f 7)) (by omega) (by omega)
            refine jj_l2i (v := nI n_98) C dX11_transfer_85 en_98 ?_
            refine jj_istore C dX11_transfer_86 (by decide) rfl ?_
            refine jj_iconst (v := 0) C dX11_transfer_88 (by decide) ?_
            refine jj_istore C dX11_transfer_89 (by decide) rfl ?_
            have hL_99 : ∀ (N : Nat) (pl : va_W) (k_100 : Nat) (y_101 : Int64) (g_102 : Nat → Int64), True → tt_ok rt_tk cA Kd pl → tt_fr Kd [(1, 6), (1, 7)] pl0 pl → tt_fa Kd [2, 3, 7] pl0 pl → rl_m pl h0 aw aa at0 ai af ap → tt_at pl h0 6 (.int (nI n_92)) → tt_lc pl ap g_91 → tt_lc pl aw g_102 → rl_TR B f g_102 p1.toInt64 k_100 y_101 → (0 : Int) ≤ (k_100 : Int) → (k_100 : Int) ≤ 40 → (2147483648 - (k_100 : Int) ≤ (N : Int)) → jj_J p l e (jj_rm 4 87 0 0) s m args below meth c 11 A (vx_MQ below (jj_q D A (tt_O (fun rx pl1 r => rx = [] ∧ tt_ok rt_tk cA Kd pl1 ∧ tt_fr Kd [(1, 6), (1, 7)] pl0 pl1 ∧ tt_fa Kd [2, 3, 7] pl0 pl1 ∧ ((rl_M (B + 30000000) (C9 + 2000) pl1 h0 aw ap ∧ ∃ v : Int64, r = some (.long v)))))) (jj_x D A (tt_OX (fun _ _ _ => False))) args s 0 0 A) (jj_X D A ([] ++ pl)) 0 0 91 [(7, .int (nI k_100)), (6, .int (nI n_98)), (4, .long y_101), (0, .ref h0), (1, .int p1), (2, .int p2), (3, .int p3)] [] := by
              intro NL_99
              induction NL_99 with
              | zero => intro pl k_100 y_101 g_102 _ hok hfr hfa hm hf_103 hC_93 hC_104 hD_105 lk_100 uk_100 hNL_99; exfalso; omega
              | succ NL_99 ihL_99 =>
                intro pl k_100 y_101 g_102 _ hok hfr hfa hm hf_103 hC_93 hC_104 hD_105 lk_100 uk_100 hNL_99
                replace ihL_99 := fun pl k_100 y_101 g_102 h1 => ihL_99 pl k_100 y_101 g_102 trivial h1
                obtain ⟨⟨g0ag_102, g0bg_102⟩, ⟨g1ag_102, g1bg_102⟩, ⟨g6ag_102, g6bg_102⟩, ⟨g7ag_102, g7bg_102⟩, ⟨g8ag_102, g8bg_102⟩⟩ := (hD_105.1).1.1
                refine jj_iload C dX11_transfer_91 rfl ?_
                refine jj_iload C dX11_transfer_93 rfl ?_
                refine jj_icmp_ge (tgt := 197) C dX11_transfer_95 (by decide) (fun c_106 => ?_) (fun c_106 => ?_)
                · have z_c_106 := jc_le (a := ((n_98 : Nat) : Int)) (b := ((k_100 : Nat) : Int)) c_106 (rl_ti (by omega)) (rl_ti (by omega))
                  refine jj_aload_n C dX11_transfer_197 rfl ?_
                  refine jj_iload_n C dX11_transfer_198 rfl ?_
                  obtain ⟨qc, gs, hqc⟩ := tt_recv (cx := []) hok hk0 (by decide) rfl
                  refine tt_callV (rest := []) C (rc_X11_unitsBy_d203db hl D cA ak p1 _ hk0 hkw hka hkt hki hkf hkp (by omega) (by omega) (hD_105.1).1.1 hok hm hC_104) [] [] rfl rfl (by decide) (by decide) (by decide) qc hqc rfl rfl jw_d258851c0a jw_53672f19d9 jw_faff4a546a jw_f96c99f44d jw_6f23c3bc30 jn_X11_unitsBy rfl (jj_le rfl) (jj_le rfl) (jj_le rfl) (jj_le rfl) (jj_le rfl) dX11_transfer_199 rfl (fun _ _ _ hX => hX.elim) (fun rx pl_107 r O_111 => ?_)
                  obtain ⟨rfl, hok_108, hr_109, ha_110, hR_112⟩ := O_111
                  replace hf_103 := hr_109.at hk0 (by decide) (by decide) hf_103
                  replace hC_93 := ha_110.at hkp (by decide) (by decide) hC_93
                  replace hC_104 := ha_110.at hkw (by decide) (by decide) hC_104
                  replace hm := hm.fr hr_109 hk0 rfl
                  replace hfr := hfr.trans (hr_109.sub (by decide))
                  replace hfa := hfa.trans (ha_110.sub (by decide))
                  obtain ⟨y_113, rfl⟩ := hR_112
                  exact jj_lret C ⟨[], pl_107, rfl, rfl, hok_108, hfr, hfa, ⟨⟨_, _, n_92, hC_104, hC_93, hf_103, (by omega), ((hD_105.K hK).mono (by omega) (by omega)), hQ_96.mono (by omega) (by omega)⟩, y_113, rfl⟩⟩ dX11_transfer_202 (jj_le rfl) (jj_le rfl)
                · have z_c_106 := jc_nle (a := ((n_98 : Nat) : Int)) (b := ((k_100 : Nat) : Int)) c_106 (rl_ti (by omega)) (rl_ti (by omega))
                  refine jj_lload C dX11_transfer_98 rfl ?_
                  refine jj_lconst (v := 0) C dX11_transfer_100 (by decide) ?_
                  refine jj_lcmp_le (tgt := 197) C dX11_transfer_101 dX11_transfer_102 (by decide) (fun c_114 => ?_) (fun c_114 => ?_)
                  · have z_c_114 := jc_leL (a := y_101.toInt) (b := 0) c_114 rfl (by decide)
                    refine jj_aload_n C dX11_transfer_197 rfl ?_
                    refine jj_iload_n C dX11_transfer_198 rfl ?_
                    obtain ⟨qc, gs, hqc⟩ := tt_recv (cx := []) hok hk0 (by decide) rfl
                    refine tt_callV (rest := []) C (rc_X11_unitsBy_d203db hl D cA ak p1 _ hk0 hkw hka hkt hki hkf hkp (by omega) (by omega) (hD_105.1).1.1 hok hm hC_104) [] [] rfl rfl (by decide) (by decide) (by decide) qc hqc rfl rfl jw_d258851c0a jw_53672f19d9 jw_faff4a546a jw_f96c99f44d jw_6f23c3bc30 jn_X11_unitsBy rfl (jj_le rfl) (jj_le rfl) (jj_le rfl) (jj_le rfl) (jj_le rfl) dX11_transfer_199 rfl (fun _ _ _ hX => hX.elim) (fun rx pl_115 r O_119 => ?_)
                    obtain ⟨rfl, hok_116, hr_117, ha_118, hR_120⟩ := O_119
                    replace hf_103 := hr_117.at hk0 (by decide) (by decide) hf_103
                    replace hC_93 := ha_118.at hkp (by decide) (by decide) hC_93
                    replace hC_104 := ha_118.at hkw (by decide) (by decide) hC_104
                    replace hm := hm.fr hr_117 hk0 rfl
                    replace hfr := hfr.trans (hr_117.sub (by decide))
                    replace hfa := hfa.trans (ha_118.sub (by decide))
                    obtain ⟨y_121, rfl⟩ := hR_120
                    exact jj_lret C ⟨[], pl_115, rfl, rfl, hok_116, hfr, hfa, ⟨⟨_, _, n_92, hC_104, hC_93, hf_103, (by omega), ((hD_105.K hK).mono (by omega) (by omega)), hQ_96.mono (by omega) (by omega)⟩, y_121, rfl⟩⟩ dX11_transfer_202 (jj_le rfl) (jj_le rfl)
                  · have z_c_114 := jc_nleL (a := y_101.toInt) (b := 0) c_114 rfl (by decide)
                    refine jj_iload C dX11_transfer_105 rfl ?_
                    refine tt_call0S (rest := []) C (rn_lotAt hl D cA ak k_100 (46 + 6 * k_100) (by omega)) jw_4c8c4b88e2 jw_0fa3e2bccb jw_f96c99f44d jw_d540d98a1c jn_X11_lotAt rfl (jj_le rfl) (jj_le rfl) (jj_le rfl) (jj_le rfl) (jj_le rfl) dX11_transfer_107 rfl (fun w1 r hO => ?_)
                    obtain ⟨-, rfl⟩ := hO
                    refine jj_istore C dX11_transfer_110 (by decide) rfl ?_
                    refine jj_aload_n C dX11_transfer_112 rfl ?_
                    refine tt_getF C hok jk_12 0 (by decide) jw_34eaf3ba8b (t := (2, 2, 0)) hk0 (by decide) rfl rfl hm.1 dX11_transfer_113 ?_
                    refine jj_iload C dX11_transfer_116 rfl ?_
                    refine jj_iconst (v := 0) C dX11_transfer_118 (by decide) ?_
                    refine jj_iadd (v := nI (46 + 6 * k_100)) C dX11_transfer_119 (rl_addR (kn := 0) (by decide) (by omega)) ?_
                    refine rl_lald C hok (t := (1, (-9223372036854775808), 9223372036854775807)) hkw (by decide) rfl (k := 46 + 6 * k_100) (v := (g_102 (46 + 6 * k_100))) (vp_in_nI (by omega) (by decide)) hC_104 (nI_clamp (by omega)) rfl dX11_transfer_120 ?_
                    refine jj_iload_n C dX11_transfer_121 rfl ?_
                    obtain ⟨y_122, ey_122, vy_122⟩ := tt_i2l p1
                    refine jj_i2l (v := y_122) C dX11_transfer_122 ey_122 ?_
                    have hy9 : p1.toInt64 = y_122 := ey_122
                    refine jj_lcmp_eq (tgt := 130) C dX11_transfer_123 dX11_transfer_124 (by decide) (fun c_123 => ?_) (fun c_123 => ?_)
                    · have z_c_123 := jc_eqL (a := (g_102 (46 + 6 * k_100)).toInt) (b := y_122.toInt) c_123 rfl rfl
                      refine jj_lload C dX11_transfer_130 rfl ?_
                      refine jj_aload_n C dX11_transfer_132 rfl ?_
                      refine tt_getF C hok jk_12 0 (by decide) jw_34eaf3ba8b (t := (2, 2, 0)) hk0 (by decide) rfl rfl hm.1 dX11_transfer_133 ?_
                      refine jj_iload C dX11_transfer_136 rfl ?_
                      refine jj_iconst (v := 2) C dX11_transfer_138 (by decide) ?_
                      refine jj_iadd (v := nI (48 + 6 * k_100)) C dX11_transfer_139 (rl_addR (kn := 2) (by decide) (by omega)) ?_
                      refine rl_lald C hok (t := (1, (-9223372036854775808), 9223372036854775807)) hkw (by decide) rfl (k := 48 + 6 * k_100) (v := (g_102 (48 + 6 * k_100))) (vp_in_nI (by omega) (by decide)) hC_104 (nI_clamp (by omega)) rfl dX11_transfer_140 ?_
                      refine tt_call0S (rest := []) C (ct_J9_min_f86c9_1 hl D cA ak y_101 (g_102 (48 + 6 * k_100))) jw_43e83b8e67 jw_a0cddbe894 jw_a731c8553d jw_e0e7ffaaeb jn_J9_min_f86c9 rfl (jj_le rfl) (jj_le rfl) (jj_le rfl) (jj_le rfl) (jj_le rfl) dX11_transfer_141 rfl (fun w1 r O_124 => ?_)
                      rcases O_124 with ⟨c_125, -, rfl⟩ | ⟨c_126, -, rfl⟩
                      · have z_c_125 := jc_ltL (a := (g_102 (48 + 6 * k_100)).toInt) (b := y_101.toInt) c_125 rfl rfl
                        refine jj_lstore C dX11_transfer_144 (by decide) rfl ?_
                        refine jj_lload C dX11_transfer_146 rfl ?_
                        refine jj_aload_n C dX11_transfer_148 rfl ?_
                        refine tt_getF C hok jk_12 0 (by decide) jw_34eaf3ba8b (t := (2, 2, 0)) hk0 (by decide) rfl rfl hm.1 dX11_transfer_149 ?_
                        refine jj_iload C dX11_transfer_152 rfl ?_
                        refine jj_iconst (v := 2) C dX11_transfer_154 (by decide) ?_
                        refine jj_iadd (v := nI (48 + 6 * k_100)) C dX11_transfer_155 (rl_addR (kn := 2) (by decide) (by omega)) ?_
                        refine rl_lald C hok (t := (1, (-9223372036854775808), 9223372036854775807)) hkw (by decide) rfl (k := 48 + 6 * k_100) (v := (g_102 (48 + 6 * k_100))) (vp_in_nI (by omega) (by decide)) hC_104 (nI_clamp (by omega)) rfl dX11_transfer_156 ?_
                        refine jj_lcmp_ne (tgt := 175) C dX11_transfer_157 dX11_transfer_158 (by decide) (fun c_127 => ?_) (fun c_127 => ?_)
                        · have z_c_127 := jc_neqL (a := (g_102 (48 + 6 * k_100)).toInt) (b := (g_102 (48 + 6 * k_100)).toInt) c_127 rfl rfl
                          exfalso; omega
                        · have z_c_127 := jc_eqL (a := (g_102 (48 + 6 * k_100)).toInt) (b := (g_102 (48 + 6 * k_100)).toInt) c_127 rfl rfl
                          refine jj_aload_n C dX11_transfer_161 rfl ?_
                          refine tt_getF C hok jk_12 0 (by decide) jw_34eaf3ba8b (t := (2, 2, 0)) hk0 (by decide) rfl rfl hm.1 dX11_transfer_162 ?_
                          refine jj_iload C dX11_transfer_165 rfl ?_
                          refine jj_iconst (v := 0) C dX11_transfer_167 (by decide) ?_
                          refine jj_iadd (v := nI (46 + 6 * k_100)) C dX11_transfer_168 (rl_addR (kn := 0) (by decide) (by omega)) ?_
                          refine jj_iload_n C dX11_transfer_169 rfl ?_
                          obtain ⟨y_128, ey_128, vy_128⟩ := tt_i2l p2
                          refine jj_i2l (v := y_128) C dX11_transfer_170 ey_128 ?_
                          refine rl_last C hok (t := (1, (-9223372036854775808), 9223372036854775807)) hkw (by decide) rfl (k := 46 + 6 * k_100) (vp_in_nI (by omega) (by decide)) (tt_ja _) (nI_clamp (by omega)) dX11_transfer_171 (fun pl_129 hok_130 tr tl tw => ?_)
                          replace hf_103 := tr _ _ _ hf_103
                          replace hm := hm.arr tr
                          replace hfr := hfr.arr tr
                          replace hC_93 := tl _ _ (tt_ne hkp hkw (by decide)) hC_93
                          replace hC_104 := tw _ hC_104
                          replace hfa := hfa.wr hkw tl (by decide)
                          refine jj_goto (tgt := 184) C dX11_transfer_172 (by decide) ?_
                          refine jj_lload C dX11_transfer_184 rfl ?_
                          refine jj_lload C dX11_transfer_186 rfl ?_
                          refine jj_lsub C dX11_transfer_188 rfl ?_
                          refine jj_lstore C dX11_transfer_189 (by decide) rfl ?_
                          refine jj_iinc (v := nI (1 + k_100)) C dX11_transfer_191 rfl (rl_addR (kn := 1) (by decide) (by omega)) (by decide) rfl ?_
                          refine jj_goto (tgt := 91) C dX11_transfer_194 (by decide) ?_
                          refine jj_loc [0, 4, 1, 5, 6, 7, 8] rfl ?_
                          exact ihL_99 pl_129 (1 + k_100) (y_101 - (g_102 (48 + 6 * k_100))) (vp_updL g_102 (46 + 6 * k_100) y_128) hok_130 hfr hfa hm hf_103 hC_93 hC_104 (hD_105.own (by unfold rnL; omega) (by omega) (by rw [hy9]; exact c_123) (by first | rfl | (congr 1)) (by omega)) (by first | omega | decide | exact tt_lo _ | exact tt_hi _) (by first | omega | decide | exact tt_lo _ | exact tt_hi _) (by first | omega | decide | exact tt_lo _ | exact tt_hi _)
                      · have z_c_126 := jc_nltL (a := (g_102 (48 + 6 * k_100)).toInt) (b := y_101.toInt) c_126 rfl rfl
                        refine jj_lstore C dX11_transfer_144 (by decide) rfl ?_
                        refine jj_lload C dX11_transfer_146 rfl ?_
                        refine jj_aload_n C dX11_transfer_148 rfl ?_
                        refine tt_getF C hok jk_12 0 (by decide) jw_34eaf3ba8b (t := (2, 2, 0)) hk0 (by decide) rfl rfl hm.1 dX11_transfer_149 ?_
                        refine jj_iload C dX11_transfer_152 rfl ?_
                        refine jj_iconst (v := 2) C dX11_transfer_154 (by decide) ?_
                        refine jj_iadd (v := nI (48 + 6 * k_100)) C dX11_transfer_155 (rl_addR (kn := 2) (by decide) (by omega)) ?_
                        refine rl_lald C hok (t := (1, (-9223372036854775808), 9223372036854775807)) hkw (by decide) rfl (k := 48 + 6 * k_100) (v := (g_102 (48 + 6 * k_100))) (vp_in_nI (by omega) (by decide)) hC_104 (nI_clamp (by omega)) rfl dX11_transfer_156 ?_
                        refine jj_lcmp_ne (tgt := 175) C dX11_transfer_157 dX11_transfer_158 (by decide) (fun c_131 => ?_) (fun c_131 => ?_)
                        · have z_c_131 := jc_neqL (a := y_101.toInt) (b := (g_102 (48 + 6 * k_100)).toInt) c_131 rfl rfl
                          refine jj_aload_n C dX11_transfer_175 rfl ?_
                          refine jj_iload C dX11_transfer_176 rfl ?_
                          refine jj_iload_n C dX11_transfer_178 rfl ?_
                          refine jj_lload C dX11_transfer_179 rfl ?_
                          obtain ⟨qc, gs, hqc⟩ := tt_recv (cx := []) hok hk0 (by decide) rfl
                          refine tt_callV (rest := []) C (rs_split hl D cA ak k_100 ((g_102 7).toInt.toNat - 1 - k_100) p2 y_101 B g_102 hk0 hkw hka hkt hki hkf hkp (by have := (hD_105.lt (by unfold rnL; omega) (by omega) (by rw [hy9]; exact c_123) (by omega)); have := hD_105.2.2.2.2.2.1.1; omega) (hD_105.lt (by unfold rnL; omega) (by omega) (by rw [hy9]; exact c_123) (by omega)) hD_105.1 hD_105.2.1 (by omega) ⟨by omega, by omega⟩ hok hm hC_104) [] [] rfl rfl (by decide) (by decide) (by decide) qc hqc rfl rfl jw_bad5393af7 jw_a86b5ef6ff jw_9571a45689 jw_f96c99f44d jw_d433781008 jn_X11_split rfl (jj_le rfl) (jj_le rfl) (jj_le rfl) (jj_le rfl) (jj_le rfl) dX11_transfer_181 rfl (fun _ _ _ hX => hX.elim) (fun rx pl_132 r O_136 => ?_)
                          obtain ⟨rfl, hok_133, hr_134, ha_135, hR_137⟩ := O_136
                          replace hf_103 := hr_134.at hk0 (by decide) (by decide) hf_103
                          replace hC_93 := ha_135.at hkp (by decide) (by decide) hC_93
                          replace hm := hm.fr hr_134 hk0 rfl
                          replace hfr := hfr.trans (hr_134.sub (by decide))
                          replace hfa := hfa.trans (ha_135.sub (by decide))
                          obtain ⟨g_138, hC_139, hI_140, hP_141, hq_142, hq_143, hq_144, rfl⟩ := hR_137
                          obtain ⟨⟨g0ag_138, g0bg_138⟩, ⟨g1ag_138, g1bg_138⟩, ⟨g6ag_138, g6bg_138⟩, ⟨g7ag_138, g7bg_138⟩, ⟨g8ag_138, g8bg_138⟩⟩ := hI_140.1.1
                          refine jj_lload C dX11_transfer_184 rfl ?_
                          refine jj_lload C dX11_transfer_186 rfl ?_
                          refine jj_lsub C dX11_transfer_188 rfl ?_
                          refine jj_lstore C dX11_transfer_189 (by decide) rfl ?_
                          refine jj_iinc (v := nI (1 + k_100)) C dX11_transfer_191 rfl (rl_addR (kn := 1) (by decide) (by omega)) (by decide) rfl ?_
                          refine jj_goto (tgt := 91) C dX11_transfer_194 (by decide) ?_
                          refine jj_loc [0, 4, 1, 5, 6, 7, 8] rfl ?_
                          exact ihL_99 pl_132 (1 + k_100) (y_101 - y_101) g_138 hok_133 hfr hfa hm hf_103 hC_93 hC_139 (hD_105.split (by unfold rnL; omega) (by omega) (by rw [Int64.sub_self]; decide) hI_140 hP_141 hq_142 hq_143 hq_144) (by first | omega | decide | exact tt_lo _ | exact tt_hi _) (by first | omega | decide | exact tt_lo _ | exact tt_hi _) (by first | omega | decide | exact tt_lo _ | exact tt_hi _)
                        · have z_c_131 := jc_eqL (a := y_101.toInt) (b := (g_102 (48 + 6 * k_100)).toInt) c_131 rfl rfl
                          refine jj_aload_n C dX11_transfer_161 rfl ?_
                          refine tt_getF C hok jk_12 0 (by decide) jw_34eaf3ba8b (t := (2, 2, 0)) hk0 (by decide) rfl rfl hm.1 dX11_transfer_162 ?_
                          refine jj_iload C dX11_transfer_165 rfl ?_
                          refine jj_iconst (v := 0) C dX11_transfer_167 (by decide) ?_
                          refine jj_iadd (v := nI (46 + 6 * k_100)) C dX11_transfer_168 (rl_addR (kn := 0) (by decide) (by omega)) ?_
                          refine jj_iload_n C dX11_transfer_169 rfl ?_
                          obtain ⟨y_145, ey_145, vy_145⟩ := tt_i2l p2
                          refine jj_i2l (v := y_145) C dX11_transfer_170 ey_145 ?_
                          refine rl_last C hok (t := (1, (-9223372036854775808), 9223372036854775807)) hkw (by decide) rfl (k := 46 + 6 * k_100) (vp_in_nI (by omega) (by decide)) (tt_ja _) (nI_clamp (by omega)) dX11_transfer_171 (fun pl_146 hok_147 tr tl tw => ?_)
                          replace hf_103 := tr _ _ _ hf_103
                          replace hm := hm.arr tr
                          replace hfr := hfr.arr tr
                          replace hC_93 := tl _ _ (tt_ne hkp hkw (by decide)) hC_93
                          replace hC_104 := tw _ hC_104
                          replace hfa := hfa.wr hkw tl (by decide)
                          refine jj_goto (tgt := 184) C dX11_transfer_172 (by decide) ?_
                          refine jj_lload C dX11_transfer_184 rfl ?_
                          refine jj_lload C dX11_transfer_186 rfl ?_
                          refine jj_lsub C dX11_transfer_188 rfl ?_
                          refine jj_lstore C dX11_transfer_189 (by decide) rfl ?_
                          refine jj_iinc (v := nI (1 + k_100)) C dX11_transfer_191 rfl (rl_addR (kn := 1) (by decide) (by omega)) (by decide) rfl ?_
                          refine jj_goto (tgt := 91) C dX11_transfer_194 (by decide) ?_
                          refine jj_loc [0, 4, 1, 5, 6, 7, 8] rfl ?_
                          exact ihL_99 pl_146 (1 + k_100) (y_101 - y_101) (vp_updL g_102 (46 + 6 * k_100) y_145) hok_147 hfr hfa hm hf_103 hC_93 hC_104 (hD_105.own (by unfold rnL; omega) (by omega) (by rw [hy9]; exact c_123) (by first | rfl | (congr 1)) (by omega)) (by first | omega | decide | exact tt_lo _ | exact tt_hi _) (by first | omega | decide | exact tt_lo _ | exact tt_hi _) (by first | omega | decide | exact tt_lo _ | exact tt_hi _)
                    · have z_c_123 := jc_neqL (a := (g_102 (46 + 6 * k_100)).toInt) (b := y_122.toInt) c_123 rfl rfl
                      refine jj_goto (tgt := 191) C dX11_transfer_127 (by decide) ?_
                      refine jj_iinc (v := nI (1 + k_100)) C dX11_transfer_191 rfl (rl_addR (kn := 1) (by decide) (by omega)) (by decide) rfl ?_
                      refine jj_goto (tgt := 91) C dX11_transfer_194 (by decide) ?_
                      refine jj_loc [0, 2, 3, 4, 5, 6, 7] rfl ?_
                      exact ihL_99 pl (1 + k_100) y_101 g_102 hok hfr hfa hm hf_103 hC_93 hC_104 (hD_105.skip (by unfold rnL; omega) (by omega) (by rw [hy9]; exact c_123)) (by first | omega | decide | exact tt_lo _ | exact tt_hi _) (by first | omega | decide | exact tt_lo _ | exact tt_hi _) (by first | omega | decide | exact tt_lo _ | exact tt_hi _)
            exact hL_99 _ pl_85 0 y_97 f trivial hok_86 hfr hfa hm hf_94 hC_93 hC (rl_TR.init hI hP (by have q9 := hn_72; first | exact q9 | (rw [ey_97] at q9; exact q9))) (by first | omega | decide | exact tt_lo _ | exact tt_hi _) (by first | omega | decide | exact tt_lo _ | exact tt_hi _) (Int.self_le_toNat _)
