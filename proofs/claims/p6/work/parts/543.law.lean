set_option maxHeartbeats 4000000 in
set_option maxRecDepth 100000 in
theorem law_c37 {p : Program} {l : Launch} {e : Env} {s : State} {m : MethodId} {below : List Frame} {meth : Method} {c : Code} (hl : l.stackTraces = false) {D : va_G} {cA : Nat → ClassId} {ak : (Nat → Nat) × (Nat → Nat)} {A : Nat → Prop} {b L : Nat} {xs : Nat → Int32} {Q : State → Prop} (C : jj_C p l s m #[Value.ref b] meth c code 9 R_law ret D cA A ak) (hX : va_X b L xs s s.heap) (hbl : b < s.heap.size) (hbA : ¬ A b) (hL : L ≤ 3072) {n h0 h1 ho hd : Nat} (hn : 6 * n + 6 ≤ L) (hb : ∀ (g : Nat → Int64) (gd : Nat → UInt64) (x : Nat) (cz : Nat → Int) (e1 : Nat) (e2 : Int32) (pR pC : va_W), x ≤ 400 → rw_C cA h0 x cz e1 e2 pC → rw_R cA (n + 1) h1 x cz e1 e2 pR → jj_J p l e room_1 s m #[Value.ref b] below meth c 9 A Q (jj_X D A (((ho, .inl (cA 2, 1, .inr (.inl g))) :: (hd, .inl (cA 4, 1, .inr (.inr (.inr (.inl gd))))) :: pR) ++ pC)) (200 + 64 * (n + 1)) (20000 + 414 * (n + 1)) 1435 [(0, .ref b), (1, .ref h0), (2, .ref h1), (3, .ref ho), (4, .ref hd), (5, .int (nI (6 * n)))] []) (g : Nat → Int64) (gd : Nat → UInt64) (x : Nat) (cz : Nat → Int) (e1 : Nat) (e2 : Int32) (pR pC : va_W) (hx : x ≤ 400) (hC : rw_C cA h0 x cz e1 e2 pC) (hR : rw_R cA n h1 x cz e1 e2 pR) : jj_J p l e room_1 s m #[Value.ref b] below meth c 9 A Q (jj_X D A (((ho, .inl (cA 2, 1, .inr (.inl g))) :: (hd, .inl (cA 4, 1, .inr (.inr (.inr (.inl gd))))) :: pR) ++ pC)) (200 + 64 * n) (20000 + 414 * n) 1324 [(0, .ref b), (1, .ref h0), (2, .ref h1), (3, .ref ho), (4, .ref hd), (5, .int (nI (6 * n)))] [] := by
  have hxi : (nI x).toInt = (x : Int) := rl_ti (by omega)
  obtain ⟨K, a0, a9, u, k1, k2, k9, ok, f1, f0, f2, hu, hcu, fe1, fe2⟩ := hC
  refine jj_aload_n C dL_law_1324 rfl ?_
  obtain ⟨qc, gs, hqc⟩ := tt_recv (cx := []) ok k1 (by decide) rfl
  refine tt_callV (rest := []) C (tc_X10_wouldMerge_1 hl D cA ak h0 k1 ok) [] _ rfl (rz_pkr _) (by decide) (rz_ndr _) rz_dis0 qc hqc rfl rfl jw_4e6f5c9c36 jw_446f5b1bea jw_c7976e3130 jw_6f6d707074 jw_c13dd1adf5 jn_X10_wouldMerge rfl (jj_le rfl) (jj_le rfl) (by show (200 + 64 * n) + 0 ≤ 603072; omega) (by show (20000 + 414 * n) + 0 ≤ 7211114; omega) (jj_le rfl) dL_law_1325 rfl (fun _ _ _ hX => hX.elim) (fun rx pl r O => ?_)
  obtain ⟨rfl, ok1, fr1, fa1, rfl | ⟨v1, -, -, rfl⟩⟩ := O
  · refine tt_nilr ?_
    have hC1 : rw_C cA h0 x cz e1 e2 pl := ⟨K, a0, a9, _, (tt_ex.refl _).kd k1 (by decide), (tt_ex.refl _).kd k2 (by decide), (tt_ex.refl _).kd k9 (by decide), ok1, (fr1.at k1 (by decide) (by decide) f1), (fr1.at k2 (by decide) (by decide) f0), (fr1.at k2 (by decide) (by decide) f2), (fa1.at k9 (by decide) (by decide) hu), hcu, (fr1.at k1 (by decide) (by decide) fe1), (fr1.at k1 (by decide) (by decide) fe2)⟩
    refine jj_pop C dL_law_1328 rfl ?_
    refine jj_aload_n C dL_law_1329 rfl ?_
    obtain ⟨K2, aw, aa, at1, ai, af, ap, b9, B, um, hk, hk9, ok2, hm, h12, h13, hum, hcm, h17, h18, he3, hM, hB0, hBF⟩ := hR
    obtain ⟨f, P, n6, hc, hcp, h6, un6, hKK, hHP⟩ := hM
    refine tt_pools ?_
    obtain ⟨qd, gt, hqd⟩ := tt_recv (cx := []) ok2 hk.1 (by decide) rfl
    refine tt_callV (rest := []) C (rs_wouldMerge hl D cA ak n6 B (5000 * (n : Int)) f P hk.1 hk.2.1 hk.2.2.1 hk.2.2.2.1 hk.2.2.2.2.1 hk.2.2.2.2.2.1 hk.2.2.2.2.2.2 (by omega) (by omega) hKK hHP (by omega) (by omega) ⟨by omega, by omega⟩ ok2 hm hc hcp h6) [] _ rfl (rz_pkr _) (by decide) (rz_ndr _) rz_dis0 qd hqd rfl rfl jw_02746ee920 jw_a9aeaaf495 jw_53c89e2fa1 jw_f96c99f44d jw_9860a95e59 jn_X11_wouldMerge rfl (jj_le rfl) (jj_le rfl) (by show (200 + 64 * n) + 0 + 0 ≤ 603072; omega) (by show (20000 + 414 * n) + 0 + 0 ≤ 7211114; omega) (jj_le rfl) dL_law_1330 rfl (fun _ _ _ hX => hX.elim) (fun rx pm1 r O => ?_)
    obtain ⟨rfl, ok1, hf1, ha1, O⟩ := O
    refine tt_nilr ?_
    refine tt_pools ?_
    have hm_2 := hm.fr hf1 hk.1 (by decide)
    obtain ⟨hM_3, w_4, rfl⟩ := O
    refine jj_pop C dL_law_1333 rfl ?_
    refine jj_goto (tgt := 1435) C dL_law_1334 (by decide) ?_
    have hR9 : rw_R cA (n + 1) h1 x cz e1 e2 pm1 := ⟨K2, aw, aa, at1, ai, af, ap, b9, _, _, hk, hk9, ok1, hm_2, (hf1.at hk.1 (by decide) (by decide) h12), (hf1.at hk.1 (by decide) (by decide) h13), (ha1.at hk9 (by decide) (by decide) hum), hcm, (hf1.at hk.1 (by decide) (by decide) h17), (hf1.at hk.1 (by decide) (by decide) h18), he3, hM_3.mono (Int.le_refl _) (by omega), (by omega), (by omega)⟩
    exact jj_loc [0, 1, 2, 3, 4, 5] rfl (jj_widen (by omega) (by omega) (hb g gd x cz e1 e2 pm1 pl hx hC1 hR9))
  · refine tt_nilr ?_
    have hC1 : rw_C cA h0 x cz e1 e2 pl := ⟨K, a0, a9, _, (tt_ex.refl _).kd k1 (by decide), (tt_ex.refl _).kd k2 (by decide), (tt_ex.refl _).kd k9 (by decide), ok1, (fr1.at k1 (by decide) (by decide) f1), (fr1.at k2 (by decide) (by decide) f0), (fr1.at k2 (by decide) (by decide) f2), (fa1.at k9 (by decide) (by decide) hu), hcu, (fr1.at k1 (by decide) (by decide) fe1), (fr1.at k1 (by decide) (by decide) fe2)⟩
    refine jj_pop C dL_law_1328 rfl ?_
    refine jj_aload_n C dL_law_1329 rfl ?_
    obtain ⟨K2, aw, aa, at1, ai, af, ap, b9, B, um, hk, hk9, ok2, hm, h12, h13, hum, hcm, h17, h18, he3, hM, hB0, hBF⟩ := hR
    obtain ⟨f, P, n6, hc, hcp, h6, un6, hKK, hHP⟩ := hM
    refine tt_pools ?_
    obtain ⟨qd, gt, hqd⟩ := tt_recv (cx := []) ok2 hk.1 (by decide) rfl
    refine tt_callV (rest := []) C (rs_wouldMerge hl D cA ak n6 B (5000 * (n : Int)) f P hk.1 hk.2.1 hk.2.2.1 hk.2.2.2.1 hk.2.2.2.2.1 hk.2.2.2.2.2.1 hk.2.2.2.2.2.2 (by omega) (by omega) hKK hHP (by omega) (by omega) ⟨by omega, by omega⟩ ok2 hm hc hcp h6) [] _ rfl (rz_pkr _) (by decide) (rz_ndr _) rz_dis0 qd hqd rfl rfl jw_02746ee920 jw_a9aeaaf495 jw_53c89e2fa1 jw_f96c99f44d jw_9860a95e59 jn_X11_wouldMerge rfl (jj_le rfl) (jj_le rfl) (by show (200 + 64 * n) + 0 + 0 ≤ 603072; omega) (by show (20000 + 414 * n) + 0 + 0 ≤ 7211114; omega) (jj_le rfl) dL_law_1330 rfl (fun _ _ _ hX => hX.elim) (fun rx pm5 r O => ?_)
    obtain ⟨rfl, ok5, hf5, ha5, O⟩ := O
    refine tt_nilr ?_
    refine tt_pools ?_
    have hm_6 := hm.fr hf5 hk.1 (by decide)
    obtain ⟨hM_7, w_8, rfl⟩ := O
    refine jj_pop C dL_law_1333 rfl ?_
    refine jj_goto (tgt := 1435) C dL_law_1334 (by decide) ?_
    have hR9 : rw_R cA (n + 1) h1 x cz e1 e2 pm5 := ⟨K2, aw, aa, at1, ai, af, ap, b9, _, _, hk, hk9, ok5, hm_6, (hf5.at hk.1 (by decide) (by decide) h12), (hf5.at hk.1 (by decide) (by decide) h13), (ha5.at hk9 (by decide) (by decide) hum), hcm, (hf5.at hk.1 (by decide) (by decide) h17), (hf5.at hk.1 (by decide) (by decide) h18), he3, hM_7.mono (Int.le_refl _) (by omega), (by omega), (by omega)⟩
    exact jj_loc [0, 1, 2, 3, 4, 5] rfl (jj_widen (by omega) (by omega) (hb g gd x cz e1 e2 pm5 pl hx hC1 hR9))

set_option maxHeartbeats 4000000 in
set_option maxRecDepth 100000 in
theorem law_c38 {p : Program} {l : Launch} {e : Env} {s : State} {m : MethodId} {below : List Frame} {meth : Method} {c : Code} (hl : l.stackTraces = false) {D : va_G} {cA : Nat → ClassId} {ak : (Nat → Nat) × (Nat → Nat)} {A : Nat → Prop} {b L : Nat} {xs : Nat → Int32} {Q : State → Prop} (C : jj_C p l s m #[Value.ref b] meth c code 9 R_law ret D cA A ak) (hX : va_X b L xs s s.heap) (hbl : b < s.heap.size) (hbA : ¬ A b) (hL : L ≤ 3072) {n h0 h1 ho hd : Nat} (hn : 6 * n + 6 ≤ L) (hb : ∀ (g : Nat → Int64) (gd : Nat → UInt64) (x : Nat) (cz : Nat → Int) (e1 : Nat) (e2 : Int32) (pR pC : va_W), x ≤ 400 → rw_C cA h0 x cz e1 e2 pC → rw_R cA (n + 1) h1 x cz e1 e2 pR → jj_J p l e room_1 s m #[Value.ref b] below meth c 9 A Q (jj_X D A (((ho, .inl (cA 2, 1, .inr (.inl g))) :: (hd, .inl (cA 4, 1, .inr (.inr (.inr (.inl gd))))) :: pR) ++ pC)) (200 + 64 * (n + 1)) (20000 + 414 * (n + 1)) 1435 [(0, .ref b), (1, .ref h0), (2, .ref h1), (3, .ref ho), (4, .ref hd), (5, .int (nI (6 * n)))] []) (g : Nat → Int64) (gd : Nat → UInt64) (x : Nat) (cz : Nat → Int) (e1 : Nat) (e2 : Int32) (pR pC : va_W) (hx : x ≤ 400) (hC : rw_C cA h0 x cz e1 e2 pC) (hR : rw_R cA n h1 x cz e1 e2 pR) : jj_J p l e room_1 s m #[Value.ref b] below meth c 9 A Q (jj_X D A (((ho, .inl (cA 2, 1, .inr (.inl g))) :: (hd, .inl (cA 4, 1, .inr (.inr (.inr (.inl gd))))) :: pR) ++ pC)) (200 + 64 * n) (20000 + 414 * n) 1337 [(0, .ref b), (1, .ref h0), (2, .ref h1), (3, .ref ho), (4, .ref hd), (5, .int (nI (6 * n)))] [] := by
  have hxi : (nI x).toInt = (x : Int) := rl_ti (by omega)
  obtain ⟨K, a0, a9, u, k1, k2, k9, ok, f1, f0, f2, hu, hcu, fe1, fe2⟩ := hC
  refine jj_aload_n C dL_law_1337 rfl ?_
  refine jj_aload_n C dL_law_1338 rfl ?_
  refine jj_iload C dL_law_1339 rfl ?_
  refine jj_iconst (v := 1) C dL_law_1341 (by decide) ?_
  refine jj_iadd (v := nI (6 * n + 1)) C dL_law_1342 (rl_addR (kn := 1) (by decide) rfl) ?_
  refine jj_xld C hX hbl hbA (k := 6 * n + 1) (by omega) hL dL_law_1343 ?_
  refine jj_aload_n C dL_law_1344 rfl ?_
  refine tt_callSW (rest := []) C (lm_bestGate hl D cA ak h0 ho (xs (6 * n + 1)) g k1 ok) [0] _ rfl (rz_pk1 _ _) (by decide) (rz_ndd _ _) rz_dis1 jw_40bb64758c jw_0e85c18dbb jw_2ec6af59de jw_ecfa92b8d3 jn_L_bestGate rfl (jj_le rfl) (jj_le rfl) (by show (200 + 64 * n) + 1 ≤ 603072; omega) (by show (20000 + 414 * n) + 6 ≤ 7211114; omega) (jj_le rfl) dL_law_1345 rfl (fun _ _ _ hX => hX.elim) (fun rx pl r O => ?_)
  obtain ⟨K1, hx1, ok1, fr1, fa1, g1, v1, rfl, rfl⟩ := O
  refine tt_rot ?_
  have hC1 : rw_C cA h0 x cz e1 e2 pl := ⟨K1, a0, a9, _, hx1.kd k1 (by decide), hx1.kd k2 (by decide), hx1.kd k9 (by decide), ok1, (fr1.at k1 (by decide) (by decide) f1), (fr1.at k2 (by decide) (by decide) f0), (fr1.at k2 (by decide) (by decide) f2), (fa1.at k9 (by decide) (by decide) hu), hcu, (fr1.at k1 (by decide) (by decide) fe1), (fr1.at k1 (by decide) (by decide) fe2)⟩
  refine jj_istore C dL_law_1348 (by decide) rfl ?_
  refine jj_aload_n C dL_law_1350 rfl ?_
  refine jj_aload_n C dL_law_1351 rfl ?_
  refine jj_iload C dL_law_1352 rfl ?_
  refine jj_iconst (v := 1) C dL_law_1354 (by decide) ?_
  refine jj_iadd (v := nI (6 * n + 1)) C dL_law_1355 (rl_addR (kn := 1) (by decide) rfl) ?_
  refine jj_xld C hX hbl hbA (k := 6 * n + 1) (by omega) hL dL_law_1356 ?_
  obtain ⟨K2, aw, aa, at1, ai, af, ap, b9, B, um, hk, hk9, ok2, hm, h12, h13, hum, hcm, h17, h18, he3, hM, hB0, hBF⟩ := hR
  obtain ⟨f, P, n6, hc, hcp, h6, un6, hKK, hHP⟩ := hM
  refine tt_pools ?_
  obtain ⟨qd, gt, hqd⟩ := tt_recv (cx := []) ok2 hk.1 (by decide) rfl
  refine tt_callV (rest := []) C (rs_bestGate hl D cA ak n6 (xs (6 * n + 1)) B (5000 * (n : Int)) f P hk.1 hk.2.1 hk.2.2.1 hk.2.2.2.1 hk.2.2.2.2.1 hk.2.2.2.2.2.1 hk.2.2.2.2.2.2 (by omega) (by omega) hKK hHP (by omega) (by omega) ⟨by omega, by omega⟩ ok2 hm hc hcp h6) [] _ rfl (rz_pkr _) (by decide) (rz_ndr _) rz_dis0 qd hqd rfl rfl jw_9fb46188ff jw_87892753a1 jw_c88e779998 jw_f96c99f44d jw_a9ad4e3931 jn_X11_bestGate rfl (jj_le rfl) (jj_le rfl) (by show (200 + 64 * n) + 1 + 0 ≤ 603072; omega) (by show (20000 + 414 * n) + 6 + 0 ≤ 7211114; omega) (jj_le rfl) dL_law_1357 rfl (fun _ _ _ hX => hX.elim) (fun rx pm1 r O => ?_)
  obtain ⟨rfl, ok1, hf1, ha1, O⟩ := O
  refine tt_nilr ?_
  refine tt_pools ?_
  have hm_2 := hm.fr hf1 hk.1 (by decide)
  obtain ⟨hM_3, w_4, rfl⟩ := O
  refine jj_istore C dL_law_1360 (by decide) rfl ?_
  refine jj_goto (tgt := 1435) C dL_law_1362 (by decide) ?_
  have hR9 : rw_R cA (n + 1) h1 x cz e1 e2 pm1 := ⟨K2, aw, aa, at1, ai, af, ap, b9, _, _, hk, hk9, ok1, hm_2, (hf1.at hk.1 (by decide) (by decide) h12), (hf1.at hk.1 (by decide) (by decide) h13), (ha1.at hk9 (by decide) (by decide) hum), hcm, (hf1.at hk.1 (by decide) (by decide) h17), (hf1.at hk.1 (by decide) (by decide) h18), he3, hM_3.mono (Int.le_refl _) (by omega), (by omega), (by omega)⟩
  exact jj_loc [2, 3, 4, 5, 6, 7] rfl (jj_widen (by omega) (by omega) (hb g1 gd x cz e1 e2 pm1 pl hx hC1 hR9))

set_option maxHeartbeats 4000000 in
set_option maxRecDepth 100000 in
theorem law_c39 {p : Program} {l : Launch} {e : Env} {s : State} {m : MethodId} {below : List Frame} {meth : Method} {c : Code} (hl : l.stackTraces = false) {D : va_G} {cA : Nat → ClassId} {ak : (Nat → Nat) × (Nat → Nat)} {A : Nat → Prop} {b L : Nat} {xs : Nat → Int32} {Q : State → Prop} (C : jj_C p l s m #[Value.ref b] meth c code 9 R_law ret D cA A ak) (hX : va_X b L xs s s.heap) (hbl : b < s.heap.size) (hbA : ¬ A b) (hL : L ≤ 3072) {n h0 h1 ho hd : Nat} (hn : 6 * n + 6 ≤ L) (hb : ∀ (g : Nat → Int64) (gd : Nat → UInt64) (x : Nat) (cz : Nat → Int) (e1 : Nat) (e2 : Int32) (pR pC : va_W), x ≤ 400 → rw_C cA h0 x cz e1 e2 pC → rw_R cA (n + 1) h1 x cz e1 e2 pR → jj_J p l e room_1 s m #[Value.ref b] below meth c 9 A Q (jj_X D A (((ho, .inl (cA 2, 1, .inr (.inl g))) :: (hd, .inl (cA 4, 1, .inr (.inr (.inr (.inl gd))))) :: pR) ++ pC)) (200 + 64 * (n + 1)) (20000 + 414 * (n + 1)) 1435 [(0, .ref b), (1, .ref h0), (2, .ref h1), (3, .ref ho), (4, .ref hd), (5, .int (nI (6 * n)))] []) (g : Nat → Int64) (gd : Nat → UInt64) (x : Nat) (cz : Nat → Int) (e1 : Nat) (e2 : Int32) (pR pC : va_W) (hx : x ≤ 400) (hC : rw_C cA h0 x cz e1 e2 pC) (hR : rw_R cA n h1 x cz e1 e2 pR) : jj_J p l e room_1 s m #[Value.ref b] below meth c 9 A Q (jj_X D A (((ho, .inl (cA 2, 1, .inr (.inl g))) :: (hd, .inl (cA 4, 1, .inr (.inr (.inr (.inl gd))))) :: pR) ++ pC)) (200 + 64 * n) (20000 + 414 * n) 1365 [(0, .ref b), (1, .ref h0), (2, .ref h1), (3, .ref ho), (4, .ref hd), (5, .int (nI (6 * n)))] [] := by
  have hxi : (nI x).toInt = (x : Int) := rl_ti (by omega)
  obtain ⟨K, a0, a9, u, k1, k2, k9, ok, f1, f0, f2, hu, hcu, fe1, fe2⟩ := hC
  refine jj_aload_n C dL_law_1365 rfl ?_
  obtain ⟨qc, gs, hqc⟩ := tt_recv (cx := []) ok k1 (by decide) rfl
  refine tt_callV (rest := []) C (tc_X10_writeReport_1 hl D cA ak h0 k1 ok) [] _ rfl (rz_pkr _) (by decide) (rz_ndr _) rz_dis0 qc hqc rfl rfl jw_5af04a665c jw_80f21873a0 jw_a7cd39c0ed jw_6f6d707074 jw_5ad844c1c2 jn_X10_writeReport rfl (jj_le rfl) (jj_le rfl) (by show (200 + 64 * n) + 0 ≤ 603072; omega) (by show (20000 + 414 * n) + 0 ≤ 7211114; omega) (jj_le rfl) dL_law_1366 rfl (fun _ _ _ hX => hX.elim) (fun rx pl r O => ?_)
  obtain ⟨rfl, ok1, fr1, fa1, ⟨v1, -, -, rfl⟩⟩ := O
  refine tt_nilr ?_
  have hC1 : rw_C cA h0 x cz e1 e2 pl := ⟨K, a0, a9, _, (tt_ex.refl _).kd k1 (by decide), (tt_ex.refl _).kd k2 (by decide), (tt_ex.refl _).kd k9 (by decide), ok1, (fr1.at k1 (by decide) (by decide) f1), (fr1.at k2 (by decide) (by decide) f0), (fr1.at k2 (by decide) (by decide) f2), (fa1.at k9 (by decide) (by decide) hu), hcu, (fr1.at k1 (by decide) (by decide) fe1), (fr1.at k1 (by decide) (by decide) fe2)⟩
  refine jj_pop C dL_law_1369 rfl ?_
  refine jj_aload_n C dL_law_1370 rfl ?_
  obtain ⟨K2, aw, aa, at1, ai, af, ap, b9, B, um, hk, hk9, ok2, hm, h12, h13, hum, hcm, h17, h18, he3, hM, hB0, hBF⟩ := hR
  obtain ⟨f, P, n6, hc, hcp, h6, un6, hKK, hHP⟩ := hM
  refine tt_pools ?_
  obtain ⟨qd, gt, hqd⟩ := tt_recv (cx := []) ok2 hk.1 (by decide) rfl
  refine tt_callV (rest := []) C (rs_writeReport hl D cA ak n6 B (5000 * (n : Int)) f P hk.1 hk.2.1 hk.2.2.1 hk.2.2.2.1 hk.2.2.2.2.1 hk.2.2.2.2.2.1 hk.2.2.2.2.2.2 (by omega) (by omega) hKK hHP (by omega) (by omega) ⟨by omega, by omega⟩ ok2 hm hc hcp h6) [] _ rfl (rz_pkr _) (by decide) (rz_ndr _) rz_dis0 qd hqd rfl rfl jw_0f183e976b jw_fd080e9f0a jw_614a7cae4d jw_f96c99f44d jw_04505d628d jn_X11_writeReport rfl (jj_le rfl) (jj_le rfl) (by show (200 + 64 * n) + 0 + 0 ≤ 603072; omega) (by show (20000 + 414 * n) + 0 + 0 ≤ 7211114; omega) (jj_le rfl) dL_law_1371 rfl (fun _ _ _ hX => hX.elim) (fun rx pm1 r O => ?_)
  obtain ⟨rfl, ok1, hf1, ha1, O⟩ := O
  refine tt_nilr ?_
  refine tt_pools ?_
  have hm_2 := hm.fr hf1 hk.1 (by decide)
  obtain ⟨hM_3, w_4, rfl⟩ := O
  refine jj_pop C dL_law_1374 rfl ?_
  refine jj_goto (tgt := 1435) C dL_law_1375 (by decide) ?_
  have hR9 : rw_R cA (n + 1) h1 x cz e1 e2 pm1 := ⟨K2, aw, aa, at1, ai, af, ap, b9, _, _, hk, hk9, ok1, hm_2, (hf1.at hk.1 (by decide) (by decide) h12), (hf1.at hk.1 (by decide) (by decide) h13), (ha1.at hk9 (by decide) (by decide) hum), hcm, (hf1.at hk.1 (by decide) (by decide) h17), (hf1.at hk.1 (by decide) (by decide) h18), he3, hM_3.mono (Int.le_refl _) (by omega), (by omega), (by omega)⟩
  exact jj_loc [0, 1, 2, 3, 4, 5] rfl (jj_widen (by omega) (by omega) (hb g gd x cz e1 e2 pm1 pl hx hC1 hR9))

set_option maxHeartbeats 4000000 in
set_option maxRecDepth 100000 in
theorem law_c40 {p : Program} {l : Launch} {e : Env} {s : State} {m : MethodId} {below : List Frame} {meth : Method} {c : Code} (hl : l.stackTraces = false) {D : va_G} {cA : Nat → ClassId} {ak : (Nat → Nat) × (Nat → Nat)} {A : Nat → Prop} {b L : Nat} {xs : Nat → Int32} {Q : State → Prop} (C : jj_C p l s m #[Value.ref b] meth c code 9 R_law ret D cA A ak) (hX : va_X b L xs s s.heap) (hbl : b < s.heap.size) (hbA : ¬ A b) (hL : L ≤ 3072) {n h0 h1 ho hd : Nat} (hn : 6 * n + 6 ≤ L) (hb : ∀ (g : Nat → Int64) (gd : Nat → UInt64) (x : Nat) (cz : Nat → Int) (e1 : Nat) (e2 : Int32) (pR pC : va_W), x ≤ 400 → rw_C cA h0 x cz e1 e2 pC → rw_R cA (n + 1) h1 x cz e1 e2 pR → jj_J p l e room_1 s m #[Value.ref b] below meth c 9 A Q (jj_X D A (((ho, .inl (cA 2, 1, .inr (.inl g))) :: (hd, .inl (cA 4, 1, .inr (.inr (.inr (.inl gd))))) :: pR) ++ pC)) (200 + 64 * (n + 1)) (20000 + 414 * (n + 1)) 1435 [(0, .ref b), (1, .ref h0), (2, .ref h1), (3, .ref ho), (4, .ref hd), (5, .int (nI (6 * n)))] []) (g : Nat → Int64) (gd : Nat → UInt64) (x : Nat) (cz : Nat → Int) (e1 : Nat) (e2 : Int32) (pR pC : va_W) (hx : x ≤ 400) (hC : rw_C cA h0 x cz e1 e2 pC) (hR : rw_R cA n h1 x cz e1 e2 pR) : jj_J p l e room_1 s m #[Value.ref b] below meth c 9 A Q (jj_X D A (((ho, .inl (cA 2, 1, .inr (.inl g))) :: (hd, .inl (cA 4, 1, .inr (.inr (.inr (.inl gd))))) :: pR) ++ pC)) (200 + 64 * n) (20000 + 414 * n) 1378 [(0, .ref b), (1, .ref h0), (2, .ref h1), (3, .ref ho), (4, .ref hd), (5, .int (nI (6 * n)))] [] := by
  have hxi : (nI x).toInt = (x : Int) := rl_ti (by omega)
  obtain ⟨K, a0, a9, u, k1, k2, k9, ok, f1, f0, f2, hu, hcu, fe1, fe2⟩ := hC
  refine jj_aload_n C dL_law_1378 rfl ?_
  refine jj_aload_n C dL_law_1379 rfl ?_
  refine jj_iload C dL_law_1380 rfl ?_
  refine jj_iconst (v := 1) C dL_law_1382 (by decide) ?_
  refine jj_iadd (v := nI (6 * n + 1)) C dL_law_1383 (rl_addR (kn := 1) (by decide) rfl) ?_
  refine jj_xld C hX hbl hbA (k := 6 * n + 1) (by omega) hL dL_law_1384 ?_
  refine jj_aload_n C dL_law_1385 rfl ?_
  refine tt_callSW (rest := []) C (lm_reportByte hl D cA ak h0 ho (xs (6 * n + 1)) g k1 ok) [0] _ rfl (rz_pk1 _ _) (by decide) (rz_ndd _ _) rz_dis1 jw_e05620899d jw_2bb2b37bc1 jw_2ec6af59de jw_6dbc153eb3 jn_L_reportByte rfl (jj_le rfl) (jj_le rfl) (by show (200 + 64 * n) + 1 ≤ 603072; omega) (by show (20000 + 414 * n) + 6 ≤ 7211114; omega) (jj_le rfl) dL_law_1386 rfl (fun _ _ _ hX => hX.elim) (fun rx pl r O => ?_)
  obtain ⟨K1, hx1, ok1, fr1, fa1, g1, v1, rfl, rfl⟩ := O
  refine tt_rot ?_
  have hC1 : rw_C cA h0 x cz e1 e2 pl := ⟨K1, a0, a9, _, hx1.kd k1 (by decide), hx1.kd k2 (by decide), hx1.kd k9 (by decide), ok1, (fr1.at k1 (by decide) (by decide) f1), (fr1.at k2 (by decide) (by decide) f0), (fr1.at k2 (by decide) (by decide) f2), (fa1.at k9 (by decide) (by decide) hu), hcu, (fr1.at k1 (by decide) (by decide) fe1), (fr1.at k1 (by decide) (by decide) fe2)⟩
  refine jj_istore C dL_law_1389 (by decide) rfl ?_
  refine jj_aload_n C dL_law_1391 rfl ?_
  refine jj_aload_n C dL_law_1392 rfl ?_
  refine jj_iload C dL_law_1393 rfl ?_
  refine jj_iconst (v := 1) C dL_law_1395 (by decide) ?_
  refine jj_iadd (v := nI (6 * n + 1)) C dL_law_1396 (rl_addR (kn := 1) (by decide) rfl) ?_
  refine jj_xld C hX hbl hbA (k := 6 * n + 1) (by omega) hL dL_law_1397 ?_
  obtain ⟨K2, aw, aa, at1, ai, af, ap, b9, B, um, hk, hk9, ok2, hm, h12, h13, hum, hcm, h17, h18, he3, hM, hB0, hBF⟩ := hR
  obtain ⟨f, P, n6, hc, hcp, h6, un6, hKK, hHP⟩ := hM
  refine tt_pools ?_
  obtain ⟨qd, gt, hqd⟩ := tt_recv (cx := []) ok2 hk.1 (by decide) rfl
  refine tt_callV (rest := []) C (rs_reportByte hl D cA ak n6 (xs (6 * n + 1)) B (5000 * (n : Int)) f P hk.1 hk.2.1 hk.2.2.1 hk.2.2.2.1 hk.2.2.2.2.1 hk.2.2.2.2.2.1 hk.2.2.2.2.2.2 (by omega) (by omega) hKK hHP (by omega) (by omega) ⟨by omega, by omega⟩ ok2 hm hc hcp h6) [] _ rfl (rz_pkr _) (by decide) (rz_ndr _) rz_dis0 qd hqd rfl rfl jw_574add0925 jw_dea8ede4b9 jw_7bc7d015e3 jw_f96c99f44d jw_fd723a2e27 jn_X11_reportByte rfl (jj_le rfl) (jj_le rfl) (by show (200 + 64 * n) + 1 + 0 ≤ 603072; omega) (by show (20000 + 414 * n) + 6 + 0 ≤ 7211114; omega) (jj_le rfl) dL_law_1398 rfl (fun _ _ _ hX => hX.elim) (fun rx pm1 r O => ?_)
  obtain ⟨rfl, ok1, hf1, ha1, O⟩ := O
  refine tt_nilr ?_
  refine tt_pools ?_
  have hm_2 := hm.fr hf1 hk.1 (by decide)
  obtain ⟨hM_3, w_4, rfl⟩ := O
  refine jj_istore C dL_law_1401 (by decide) rfl ?_
  refine jj_goto (tgt := 1435) C dL_law_1403 (by decide) ?_
  have hR9 : rw_R cA (n + 1) h1 x cz e1 e2 pm1 := ⟨K2, aw, aa, at1, ai, af, ap, b9, _, _, hk, hk9, ok1, hm_2, (hf1.at hk.1 (by decide) (by decide) h12), (hf1.at hk.1 (by decide) (by decide) h13), (ha1.at hk9 (by decide) (by decide) hum), hcm, (hf1.at hk.1 (by decide) (by decide) h17), (hf1.at hk.1 (by decide) (by decide) h18), he3, hM_3.mono (Int.le_refl _) (by omega), (by omega), (by omega)⟩
  exact jj_loc [2, 3, 4, 5, 6, 7] rfl (jj_widen (by omega) (by omega) (hb g1 gd x cz e1 e2 pm1 pl hx hC1 hR9))

set_option maxHeartbeats 4000000 in
set_option maxRecDepth 100000 in
theorem law_c41 {p : Program} {l : Launch} {e : Env} {s : State} {m : MethodId} {below : List Frame} {meth : Method} {c : Code} (hl : l.stackTraces = false) {D : va_G} {cA : Nat → ClassId} {ak : (Nat → Nat) × (Nat → Nat)} {A : Nat → Prop} {b L : Nat} {xs : Nat → Int32} {Q : State → Prop} (C : jj_C p l s m #[Value.ref b] meth c code 9 R_law ret D cA A ak) (hX : va_X b L xs s s.heap) (hbl : b < s.heap.size) (hbA : ¬ A b) (hL : L ≤ 3072) {n h0 h1 ho hd : Nat} (hn : 6 * n + 6 ≤ L) (hb : ∀ (g : Nat → Int64) (gd : Nat → UInt64) (x : Nat) (cz : Nat → Int) (e1 : Nat) (e2 : Int32) (pR pC : va_W), x ≤ 400 → rw_C cA h0 x cz e1 e2 pC → rw_R cA (n + 1) h1 x cz e1 e2 pR → jj_J p l e room_1 s m #[Value.ref b] below meth c 9 A Q (jj_X D A (((ho, .inl (cA 2, 1, .inr (.inl g))) :: (hd, .inl (cA 4, 1, .inr (.inr (.inr (.inl gd))))) :: pR) ++ pC)) (200 + 64 * (n + 1)) (20000 + 414 * (n + 1)) 1435 [(0, .ref b), (1, .ref h0), (2, .ref h1), (3, .ref ho), (4, .ref hd), (5, .int (nI (6 * n)))] []) (g : Nat → Int64) (gd : Nat → UInt64) (x : Nat) (cz : Nat → Int) (e1 : Nat) (e2 : Int32) (pR pC : va_W) (hx : x ≤ 400) (hC : rw_C cA h0 x cz e1 e2 pC) (hR : rw_R cA n h1 x cz e1 e2 pR) : jj_J p l e room_1 s m #[Value.ref b] below meth c 9 A Q (jj_X D A (((ho, .inl (cA 2, 1, .inr (.inl g))) :: (hd, .inl (cA 4, 1, .inr (.inr (.inr (.inl gd))))) :: pR) ++ pC)) (200 + 64 * n) (20000 + 414 * n) 1406 [(0, .ref b), (1, .ref h0), (2, .ref h1), (3, .ref ho), (4, .ref hd), (5, .int (nI (6 * n)))] [] := by
  have hxi : (nI x).toInt = (x : Int) := rl_ti (by omega)
  obtain ⟨K, a0, a9, u, k1, k2, k9, ok, f1, f0, f2, hu, hcu, fe1, fe2⟩ := hC
  refine jj_aload_n C dL_law_1406 rfl ?_
  refine jj_aload_n C dL_law_1407 rfl ?_
  refine tt_callSW (rest := []) C (lm_undo hl D cA ak h0 ho g k1 ok) [0] _ rfl (rz_pk1 _ _) (by decide) (rz_ndd _ _) rz_dis1 jw_de00c32632 jw_19fee9ab6f jw_2ec6af59de jw_c5bba28514 jn_L_undo rfl (jj_le rfl) (jj_le rfl) (by show (200 + 64 * n) + 1 ≤ 603072; omega) (by show (20000 + 414 * n) + 6 ≤ 7211114; omega) (jj_le rfl) dL_law_1408 rfl (fun _ _ _ hX => hX.elim) (fun rx pl r O => ?_)
  obtain ⟨K1, hx1, ok1, fr1, fa1, g1, v1, rfl, rfl⟩ := O
  refine tt_rot ?_
  have hC1 : rw_C cA h0 x cz e1 e2 pl := ⟨K1, a0, a9, _, hx1.kd k1 (by decide), hx1.kd k2 (by decide), hx1.kd k9 (by decide), ok1, (fr1.at k1 (by decide) (by decide) f1), (fr1.at k2 (by decide) (by decide) f0), (fr1.at k2 (by decide) (by decide) f2), (fa1.at k9 (by decide) (by decide) hu), hcu, (fr1.at k1 (by decide) (by decide) fe1), (fr1.at k1 (by decide) (by decide) fe2)⟩
  refine jj_istore C dL_law_1411 (by decide) rfl ?_
  refine jj_aload_n C dL_law_1413 rfl ?_
  obtain ⟨K2, aw, aa, at1, ai, af, ap, b9, B, um, hk, hk9, ok2, hm, h12, h13, hum, hcm, h17, h18, he3, hM, hB0, hBF⟩ := hR
  obtain ⟨f, P, n6, hc, hcp, h6, un6, hKK, hHP⟩ := hM
  refine tt_pools ?_
  obtain ⟨qd, gt, hqd⟩ := tt_recv (cx := []) ok2 hk.1 (by decide) rfl
  refine tt_callV (rest := []) C (rs_undo hl D cA ak n6 B (5000 * (n : Int)) f P hk.1 hk.2.1 hk.2.2.1 hk.2.2.2.1 hk.2.2.2.2.1 hk.2.2.2.2.2.1 hk.2.2.2.2.2.2 (by omega) (by omega) hKK hHP ok2 hm hc hcp h6) [] _ rfl (rz_pkr _) (by decide) (rz_ndr _) rz_dis0 qd hqd rfl rfl jw_9b350b061e jw_a466103aa4 jw_586c5d772b jw_f96c99f44d jw_256e392c05 jn_X11_undo rfl (jj_le rfl) (jj_le rfl) (by show (200 + 64 * n) + 1 + 0 ≤ 603072; omega) (by show (20000 + 414 * n) + 6 + 0 ≤ 7211114; omega) (jj_le rfl) dL_law_1414 rfl (fun _ _ _ hX => hX.elim) (fun rx pm1 r O => ?_)
  obtain ⟨rfl, ok1, hf1, ha1, O⟩ := O
  refine tt_nilr ?_
  refine tt_pools ?_
  have hm_2 := hm.fr hf1 hk.1 (by decide)
  obtain ⟨hM_3, w_4, rfl⟩ := O
  refine jj_istore C dL_law_1417 (by decide) rfl ?_
  refine jj_goto (tgt := 1435) C dL_law_1419 (by decide) ?_
  have hR9 : rw_R cA (n + 1) h1 x cz e1 e2 pm1 := ⟨K2, aw, aa, at1, ai, af, ap, b9, _, _, hk, hk9, ok1, hm_2, (hf1.at hk.1 (by decide) (by decide) h12), (hf1.at hk.1 (by decide) (by decide) h13), (ha1.at hk9 (by decide) (by decide) hum), hcm, (hf1.at hk.1 (by decide) (by decide) h17), (hf1.at hk.1 (by decide) (by decide) h18), he3, hM_3.mono (Int.le_refl _) (by omega), (by omega), (by omega)⟩
  exact jj_loc [2, 3, 4, 5, 6, 7] rfl (jj_widen (by omega) (by omega) (hb g1 gd x cz e1 e2 pm1 pl hx hC1 hR9))

set_option maxHeartbeats 4000000 in
set_option maxRecDepth 100000 in
theorem law_c42 {p : Program} {l : Launch} {e : Env} {s : State} {m : MethodId} {below : List Frame} {meth : Method} {c : Code} (hl : l.stackTraces = false) {D : va_G} {cA : Nat → ClassId} {ak : (Nat → Nat) × (Nat → Nat)} {A : Nat → Prop} {b L : Nat} {xs : Nat → Int32} {Q : State → Prop} (C : jj_C p l s m #[Value.ref b] meth c code 9 R_law ret D cA A ak) (hX : va_X b L xs s s.heap) (hbl : b < s.heap.size) (hbA : ¬ A b) (hL : L ≤ 3072) {n h0 h1 ho hd : Nat} (hn : 6 * n + 6 ≤ L) (hb : ∀ (g : Nat → Int64) (gd : Nat → UInt64) (x : Nat) (cz : Nat → Int) (e1 : Nat) (e2 : Int32) (pR pC : va_W), x ≤ 400 → rw_C cA h0 x cz e1 e2 pC → rw_R cA (n + 1) h1 x cz e1 e2 pR → jj_J p l e room_1 s m #[Value.ref b] below meth c 9 A Q (jj_X D A (((ho, .inl (cA 2, 1, .inr (.inl g))) :: (hd, .inl (cA 4, 1, .inr (.inr (.inr (.inl gd))))) :: pR) ++ pC)) (200 + 64 * (n + 1)) (20000 + 414 * (n + 1)) 1435 [(0, .ref b), (1, .ref h0), (2, .ref h1), (3, .ref ho), (4, .ref hd), (5, .int (nI (6 * n)))] []) (g : Nat → Int64) (gd : Nat → UInt64) (x : Nat) (cz : Nat → Int) (e1 : Nat) (e2 : Int32) (pR pC : va_W) (hx : x ≤ 400) (hC : rw_C cA h0 x cz e1 e2 pC) (hR : rw_R cA n h1 x cz e1 e2 pR) : jj_J p l e room_1 s m #[Value.ref b] below meth c 9 A Q (jj_X D A (((ho, .inl (cA 2, 1, .inr (.inl g))) :: (hd, .inl (cA 4, 1, .inr (.inr (.inr (.inl gd))))) :: pR) ++ pC)) (200 + 64 * n) (20000 + 414 * n) 1422 [(0, .ref b), (1, .ref h0), (2, .ref h1), (3, .ref ho), (4, .ref hd), (5, .int (nI (6 * n)))] [] := by
  have hxi : (nI x).toInt = (x : Int) := rl_ti (by omega)
  obtain ⟨K, a0, a9, u, k1, k2, k9, ok, f1, f0, f2, hu, hcu, fe1, fe2⟩ := hC
  refine jj_aload_n C dL_law_1422 rfl ?_
  obtain ⟨qc, gs, hqc⟩ := tt_recv (cx := []) ok k1 (by decide) rfl
  refine tt_callV (rest := []) C (tc_X10_undoDepth_1 hl D cA ak h0 k1 ok) [] _ rfl (rz_pkr _) (by decide) (rz_ndr _) rz_dis0 qc hqc rfl rfl jw_b5a7d28990 jw_dd5f3aff05 jw_de4cf37e4a jw_6f6d707074 jw_99e7f9eb39 jn_X10_undoDepth rfl (jj_le rfl) (jj_le rfl) (by show (200 + 64 * n) + 0 ≤ 603072; omega) (by show (20000 + 414 * n) + 0 ≤ 7211114; omega) (jj_le rfl) dL_law_1423 rfl (fun _ _ _ hX => hX.elim) (fun rx pl r O => ?_)
  obtain ⟨rfl, ok1, fr1, fa1, ⟨v1, -, -, rfl⟩⟩ := O
  refine tt_nilr ?_
  have hC1 : rw_C cA h0 x cz e1 e2 pl := ⟨K, a0, a9, _, (tt_ex.refl _).kd k1 (by decide), (tt_ex.refl _).kd k2 (by decide), (tt_ex.refl _).kd k9 (by decide), ok1, (fr1.at k1 (by decide) (by decide) f1), (fr1.at k2 (by decide) (by decide) f0), (fr1.at k2 (by decide) (by decide) f2), (fa1.at k9 (by decide) (by decide) hu), hcu, (fr1.at k1 (by decide) (by decide) fe1), (fr1.at k1 (by decide) (by decide) fe2)⟩
  refine jj_pop C dL_law_1426 rfl ?_
  refine jj_aload_n C dL_law_1427 rfl ?_
  obtain ⟨K2, aw, aa, at1, ai, af, ap, b9, B, um, hk, hk9, ok2, hm, h12, h13, hum, hcm, h17, h18, he3, hM, hB0, hBF⟩ := hR
  obtain ⟨f, P, n6, hc, hcp, h6, un6, hKK, hHP⟩ := hM
  refine tt_pools ?_
  obtain ⟨qd, gt, hqd⟩ := tt_recv (cx := []) ok2 hk.1 (by decide) rfl
  refine tt_callV (rest := []) C (rs_undoDepth hl D cA ak n6 B (5000 * (n : Int)) f P hk.1 hk.2.1 hk.2.2.1 hk.2.2.2.1 hk.2.2.2.2.1 hk.2.2.2.2.2.1 hk.2.2.2.2.2.2 (by omega) (by omega) hKK hHP (by omega) (by omega) ⟨by omega, by omega⟩ ok2 hm hc hcp h6) [] _ rfl (rz_pkr _) (by decide) (rz_ndr _) rz_dis0 qd hqd rfl rfl jw_2cf8e7ba8f jw_9898c1fa7b jw_9dffb0f67e jw_f96c99f44d jw_b89e52f8b9 jn_X11_undoDepth rfl (jj_le rfl) (jj_le rfl) (by show (200 + 64 * n) + 0 + 0 ≤ 603072; omega) (by show (20000 + 414 * n) + 0 + 0 ≤ 7211114; omega) (jj_le rfl) dL_law_1428 rfl (fun _ _ _ hX => hX.elim) (fun rx pm1 r O => ?_)
  obtain ⟨rfl, ok1, hf1, ha1, O⟩ := O
  refine tt_nilr ?_
  refine tt_pools ?_
  have hm_2 := hm.fr hf1 hk.1 (by decide)
  obtain ⟨hM_3, w_4, rfl⟩ := O
  refine jj_pop C dL_law_1431 rfl ?_
  refine jj_goto (tgt := 1435) C dL_law_1432 (by decide) ?_
  have hR9 : rw_R cA (n + 1) h1 x cz e1 e2 pm1 := ⟨K2, aw, aa, at1, ai, af, ap, b9, _, _, hk, hk9, ok1, hm_2, (hf1.at hk.1 (by decide) (by decide) h12), (hf1.at hk.1 (by decide) (by decide) h13), (ha1.at hk9 (by decide) (by decide) hum), hcm, (hf1.at hk.1 (by decide) (by decide) h17), (hf1.at hk.1 (by decide) (by decide) h18), he3, hM_3.mono (Int.le_refl _) (by omega), (by omega), (by omega)⟩
  exact jj_loc [0, 1, 2, 3, 4, 5] rfl (jj_widen (by omega) (by omega) (hb g gd x cz e1 e2 pm1 pl hx hC1 hR9))

