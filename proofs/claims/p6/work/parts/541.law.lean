set_option maxHeartbeats 4000000 in
set_option maxRecDepth 100000 in
theorem law_c11 {p : Program} {l : Launch} {e : Env} {s : State} {m : MethodId} {below : List Frame} {meth : Method} {c : Code} (hl : l.stackTraces = false) {D : va_G} {cA : Nat → ClassId} {ak : (Nat → Nat) × (Nat → Nat)} {A : Nat → Prop} {b L : Nat} {xs : Nat → Int32} {Q : State → Prop} (C : jj_C p l s m #[Value.ref b] meth c code 9 R_law ret D cA A ak) (hX : va_X b L xs s s.heap) (hbl : b < s.heap.size) (hbA : ¬ A b) (hL : L ≤ 3072) {n h0 h1 ho hd : Nat} (hn : 6 * n + 6 ≤ L) (hb : ∀ (g : Nat → Int64) (gd : Nat → UInt64) (x : Nat) (cz : Nat → Int) (e1 : Nat) (e2 : Int32) (pR pC : va_W), x ≤ 400 → rw_C cA h0 x cz e1 e2 pC → rw_R cA (n + 1) h1 x cz e1 e2 pR → jj_J p l e room_1 s m #[Value.ref b] below meth c 9 A Q (jj_X D A (((ho, .inl (cA 2, 1, .inr (.inl g))) :: (hd, .inl (cA 4, 1, .inr (.inr (.inr (.inl gd))))) :: pR) ++ pC)) (200 + 64 * (n + 1)) (20000 + 414 * (n + 1)) 1435 [(0, .ref b), (1, .ref h0), (2, .ref h1), (3, .ref ho), (4, .ref hd), (5, .int (nI (6 * n)))] []) (g : Nat → Int64) (gd : Nat → UInt64) (x : Nat) (cz : Nat → Int) (e1 : Nat) (e2 : Int32) (pR pC : va_W) (hx : x ≤ 400) (hC : rw_C cA h0 x cz e1 e2 pC) (hR : rw_R cA n h1 x cz e1 e2 pR) : jj_J p l e room_1 s m #[Value.ref b] below meth c 9 A Q (jj_X D A (((ho, .inl (cA 2, 1, .inr (.inl g))) :: (hd, .inl (cA 4, 1, .inr (.inr (.inr (.inl gd))))) :: pR) ++ pC)) (200 + 64 * n) (20000 + 414 * n) 552 [(0, .ref b), (1, .ref h0), (2, .ref h1), (3, .ref ho), (4, .ref hd), (5, .int (nI (6 * n)))] [] := by
  have hxi : (nI x).toInt = (x : Int) := rl_ti (by omega)
  obtain ⟨K, a0, a9, u, k1, k2, k9, ok, f1, f0, f2, hu, hcu, fe1, fe2⟩ := hC
  refine jj_aload_n C dL_law_552 rfl ?_
  obtain ⟨qc, gs, hqc⟩ := tt_recv (cx := []) ok k1 (by decide) rfl
  refine tt_callV (rest := []) C (tc_X10_crystallize_1 hl D cA ak h0 k1 ok) [] _ rfl (rz_pkr _) (by decide) (rz_ndr _) rz_dis0 qc hqc rfl rfl jw_185c111699 jw_32ee2e130f jw_ab3fee97b3 jw_6f6d707074 jw_ac965d7551 jn_X10_crystallize rfl (jj_le rfl) (jj_le rfl) (by show (200 + 64 * n) + 63 ≤ 603072; omega) (by show (20000 + 414 * n) + 408 ≤ 7211114; omega) (jj_le rfl) dL_law_553 rfl (fun _ _ _ hX => hX.elim) (fun rx pl r O => ?_)
  obtain ⟨K1, hx1, rfl, ok1, fr1, fa1, ⟨v1, rfl⟩⟩ := O
  refine tt_nilr ?_
  have hC1 : rw_C cA h0 x cz e1 e2 pl := ⟨K1, a0, a9, _, hx1.kd k1 (by decide), hx1.kd k2 (by decide), hx1.kd k9 (by decide), ok1, (fr1.at k1 (by decide) (by decide) f1), (fr1.at k2 (by decide) (by decide) f0), (fr1.at k2 (by decide) (by decide) f2), (fa1.at k9 (by decide) (by decide) hu), hcu, (fr1.at k1 (by decide) (by decide) fe1), (fr1.at k1 (by decide) (by decide) fe2)⟩
  refine jj_pop2 C dL_law_556 rfl ?_
  refine jj_aload_n C dL_law_557 rfl ?_
  obtain ⟨K2, aw, aa, at1, ai, af, ap, b9, B, um, hk, hk9, ok2, hm, h12, h13, hum, hcm, h17, h18, he3, hM, hB0, hBF⟩ := hR
  obtain ⟨f, P, n6, hc, hcp, h6, un6, hKK, hHP⟩ := hM
  refine tt_pools ?_
  obtain ⟨qd, gt, hqd⟩ := tt_recv (cx := []) ok2 hk.1 (by decide) rfl
  refine tt_callV (rest := []) C (rs_crystallize hl D cA ak n6 B (5000 * (n : Int)) f P hk.1 hk.2.1 hk.2.2.1 hk.2.2.2.1 hk.2.2.2.2.1 hk.2.2.2.2.2.1 hk.2.2.2.2.2.2 (by omega) (by omega) hKK hHP (by omega) (by omega) ⟨by omega, by omega⟩ ok2 hm hc hcp h6) [] _ rfl (rz_pkr _) (by decide) (rz_ndr _) rz_dis0 qd hqd rfl rfl jw_3f3e7be31e jw_b2362f64da jw_3e7250d051 jw_f96c99f44d jw_96fcf17aeb jn_X11_crystallize rfl (jj_le rfl) (jj_le rfl) (by show (200 + 64 * n) + 63 + 0 ≤ 603072; omega) (by show (20000 + 414 * n) + 408 + 0 ≤ 7211114; omega) (jj_le rfl) dL_law_558 rfl (fun _ _ _ hX => hX.elim) (fun rx pm1 r O => ?_)
  obtain ⟨rfl, ok1, hf1, ha1, O⟩ := O
  refine tt_nilr ?_
  refine tt_pools ?_
  have hm_2 := hm.fr hf1 hk.1 (by decide)
  obtain ⟨hM_3, w_4, rfl⟩ := O
  refine jj_pop2 C dL_law_561 rfl ?_
  refine jj_goto (tgt := 1435) C dL_law_562 (by decide) ?_
  have hR9 : rw_R cA (n + 1) h1 x cz e1 e2 pm1 := ⟨K2, aw, aa, at1, ai, af, ap, b9, _, _, hk, hk9, ok1, hm_2, (hf1.at hk.1 (by decide) (by decide) h12), (hf1.at hk.1 (by decide) (by decide) h13), (ha1.at hk9 (by decide) (by decide) hum), hcm, (hf1.at hk.1 (by decide) (by decide) h17), (hf1.at hk.1 (by decide) (by decide) h18), he3, hM_3.mono (Int.le_refl _) (by omega), (by omega), (by omega)⟩
  exact jj_loc [0, 1, 2, 3, 4, 5] rfl (jj_widen (by omega) (by omega) (hb g gd x cz e1 e2 pm1 pl hx hC1 hR9))

set_option maxHeartbeats 4000000 in
set_option maxRecDepth 100000 in
theorem law_c12 {p : Program} {l : Launch} {e : Env} {s : State} {m : MethodId} {below : List Frame} {meth : Method} {c : Code} (hl : l.stackTraces = false) {D : va_G} {cA : Nat → ClassId} {ak : (Nat → Nat) × (Nat → Nat)} {A : Nat → Prop} {b L : Nat} {xs : Nat → Int32} {Q : State → Prop} (C : jj_C p l s m #[Value.ref b] meth c code 9 R_law ret D cA A ak) (hX : va_X b L xs s s.heap) (hbl : b < s.heap.size) (hbA : ¬ A b) (hL : L ≤ 3072) {n h0 h1 ho hd : Nat} (hn : 6 * n + 6 ≤ L) (hb : ∀ (g : Nat → Int64) (gd : Nat → UInt64) (x : Nat) (cz : Nat → Int) (e1 : Nat) (e2 : Int32) (pR pC : va_W), x ≤ 400 → rw_C cA h0 x cz e1 e2 pC → rw_R cA (n + 1) h1 x cz e1 e2 pR → jj_J p l e room_1 s m #[Value.ref b] below meth c 9 A Q (jj_X D A (((ho, .inl (cA 2, 1, .inr (.inl g))) :: (hd, .inl (cA 4, 1, .inr (.inr (.inr (.inl gd))))) :: pR) ++ pC)) (200 + 64 * (n + 1)) (20000 + 414 * (n + 1)) 1435 [(0, .ref b), (1, .ref h0), (2, .ref h1), (3, .ref ho), (4, .ref hd), (5, .int (nI (6 * n)))] []) (g : Nat → Int64) (gd : Nat → UInt64) (x : Nat) (cz : Nat → Int) (e1 : Nat) (e2 : Int32) (pR pC : va_W) (hx : x ≤ 400) (hC : rw_C cA h0 x cz e1 e2 pC) (hR : rw_R cA n h1 x cz e1 e2 pR) : jj_J p l e room_1 s m #[Value.ref b] below meth c 9 A Q (jj_X D A (((ho, .inl (cA 2, 1, .inr (.inl g))) :: (hd, .inl (cA 4, 1, .inr (.inr (.inr (.inl gd))))) :: pR) ++ pC)) (200 + 64 * n) (20000 + 414 * n) 565 [(0, .ref b), (1, .ref h0), (2, .ref h1), (3, .ref ho), (4, .ref hd), (5, .int (nI (6 * n)))] [] := by
  have hxi : (nI x).toInt = (x : Int) := rl_ti (by omega)
  obtain ⟨K, a0, a9, u, k1, k2, k9, ok, f1, f0, f2, hu, hcu, fe1, fe2⟩ := hC
  refine jj_aload_n C dL_law_565 rfl ?_
  obtain ⟨qc, gs, hqc⟩ := tt_recv (cx := []) ok k1 (by decide) rfl
  refine tt_callV (rest := []) C (tc_X10_merge_1 hl D cA ak h0 k1 ok) [] _ rfl (rz_pkr _) (by decide) (rz_ndr _) rz_dis0 qc hqc rfl rfl jw_0926b9a925 jw_227b1410f0 jw_762fddb565 jw_6f6d707074 jw_ecf0a5f18f jn_X10_merge rfl (jj_le rfl) (jj_le rfl) (by show (200 + 64 * n) + 63 ≤ 603072; omega) (by show (20000 + 414 * n) + 408 ≤ 7211114; omega) (jj_le rfl) dL_law_566 rfl (fun _ _ _ hX => hX.elim) (fun rx pl r O => ?_)
  obtain ⟨K1, hx1, rfl, ok1, fr1, fa1, rfl | ⟨v1, -, -, rfl⟩⟩ := O
  · refine tt_nilr ?_
    have hC1 : rw_C cA h0 x cz e1 e2 pl := ⟨K1, a0, a9, _, hx1.kd k1 (by decide), hx1.kd k2 (by decide), hx1.kd k9 (by decide), ok1, (fr1.at k1 (by decide) (by decide) f1), (fr1.at k2 (by decide) (by decide) f0), (fr1.at k2 (by decide) (by decide) f2), (fa1.at k9 (by decide) (by decide) hu), hcu, (fr1.at k1 (by decide) (by decide) fe1), (fr1.at k1 (by decide) (by decide) fe2)⟩
    refine jj_pop C dL_law_569 rfl ?_
    refine jj_aload_n C dL_law_570 rfl ?_
    obtain ⟨K2, aw, aa, at1, ai, af, ap, b9, B, um, hk, hk9, ok2, hm, h12, h13, hum, hcm, h17, h18, he3, hM, hB0, hBF⟩ := hR
    obtain ⟨f, P, n6, hc, hcp, h6, un6, hKK, hHP⟩ := hM
    refine tt_pools ?_
    obtain ⟨qd, gt, hqd⟩ := tt_recv (cx := []) ok2 hk.1 (by decide) rfl
    refine tt_callV (rest := []) C (rs_merge hl D cA ak n6 B (5000 * (n : Int)) f P hk.1 hk.2.1 hk.2.2.1 hk.2.2.2.1 hk.2.2.2.2.1 hk.2.2.2.2.2.1 hk.2.2.2.2.2.2 (by omega) (by omega) hKK hHP (by omega) (by omega) ⟨by omega, by omega⟩ ok2 hm hc hcp h6) [] _ rfl (rz_pkr _) (by decide) (rz_ndr _) rz_dis0 qd hqd rfl rfl jw_14c3ec897a jw_b622d7ddfe jw_c146e1b4dd jw_f96c99f44d jw_7222545b3c jn_X11_merge rfl (jj_le rfl) (jj_le rfl) (by show (200 + 64 * n) + 63 + 0 ≤ 603072; omega) (by show (20000 + 414 * n) + 408 + 0 ≤ 7211114; omega) (jj_le rfl) dL_law_571 rfl (fun _ _ _ hX => hX.elim) (fun rx pm1 r O => ?_)
    obtain ⟨rfl, ok1, hf1, ha1, O⟩ := O
    refine tt_nilr ?_
    refine tt_pools ?_
    have hm_2 := hm.fr hf1 hk.1 (by decide)
    obtain ⟨hM_3, w_4, rfl⟩ := O
    refine jj_pop C dL_law_574 rfl ?_
    refine jj_goto (tgt := 1435) C dL_law_575 (by decide) ?_
    have hR9 : rw_R cA (n + 1) h1 x cz e1 e2 pm1 := ⟨K2, aw, aa, at1, ai, af, ap, b9, _, _, hk, hk9, ok1, hm_2, (hf1.at hk.1 (by decide) (by decide) h12), (hf1.at hk.1 (by decide) (by decide) h13), (ha1.at hk9 (by decide) (by decide) hum), hcm, (hf1.at hk.1 (by decide) (by decide) h17), (hf1.at hk.1 (by decide) (by decide) h18), he3, hM_3.mono (Int.le_refl _) (by omega), (by omega), (by omega)⟩
    exact jj_loc [0, 1, 2, 3, 4, 5] rfl (jj_widen (by omega) (by omega) (hb g gd x cz e1 e2 pm1 pl hx hC1 hR9))
  · refine tt_nilr ?_
    have hC1 : rw_C cA h0 x cz e1 e2 pl := ⟨K1, a0, a9, _, hx1.kd k1 (by decide), hx1.kd k2 (by decide), hx1.kd k9 (by decide), ok1, (fr1.at k1 (by decide) (by decide) f1), (fr1.at k2 (by decide) (by decide) f0), (fr1.at k2 (by decide) (by decide) f2), (fa1.at k9 (by decide) (by decide) hu), hcu, (fr1.at k1 (by decide) (by decide) fe1), (fr1.at k1 (by decide) (by decide) fe2)⟩
    refine jj_pop C dL_law_569 rfl ?_
    refine jj_aload_n C dL_law_570 rfl ?_
    obtain ⟨K2, aw, aa, at1, ai, af, ap, b9, B, um, hk, hk9, ok2, hm, h12, h13, hum, hcm, h17, h18, he3, hM, hB0, hBF⟩ := hR
    obtain ⟨f, P, n6, hc, hcp, h6, un6, hKK, hHP⟩ := hM
    refine tt_pools ?_
    obtain ⟨qd, gt, hqd⟩ := tt_recv (cx := []) ok2 hk.1 (by decide) rfl
    refine tt_callV (rest := []) C (rs_merge hl D cA ak n6 B (5000 * (n : Int)) f P hk.1 hk.2.1 hk.2.2.1 hk.2.2.2.1 hk.2.2.2.2.1 hk.2.2.2.2.2.1 hk.2.2.2.2.2.2 (by omega) (by omega) hKK hHP (by omega) (by omega) ⟨by omega, by omega⟩ ok2 hm hc hcp h6) [] _ rfl (rz_pkr _) (by decide) (rz_ndr _) rz_dis0 qd hqd rfl rfl jw_14c3ec897a jw_b622d7ddfe jw_c146e1b4dd jw_f96c99f44d jw_7222545b3c jn_X11_merge rfl (jj_le rfl) (jj_le rfl) (by show (200 + 64 * n) + 63 + 0 ≤ 603072; omega) (by show (20000 + 414 * n) + 408 + 0 ≤ 7211114; omega) (jj_le rfl) dL_law_571 rfl (fun _ _ _ hX => hX.elim) (fun rx pm5 r O => ?_)
    obtain ⟨rfl, ok5, hf5, ha5, O⟩ := O
    refine tt_nilr ?_
    refine tt_pools ?_
    have hm_6 := hm.fr hf5 hk.1 (by decide)
    obtain ⟨hM_7, w_8, rfl⟩ := O
    refine jj_pop C dL_law_574 rfl ?_
    refine jj_goto (tgt := 1435) C dL_law_575 (by decide) ?_
    have hR9 : rw_R cA (n + 1) h1 x cz e1 e2 pm5 := ⟨K2, aw, aa, at1, ai, af, ap, b9, _, _, hk, hk9, ok5, hm_6, (hf5.at hk.1 (by decide) (by decide) h12), (hf5.at hk.1 (by decide) (by decide) h13), (ha5.at hk9 (by decide) (by decide) hum), hcm, (hf5.at hk.1 (by decide) (by decide) h17), (hf5.at hk.1 (by decide) (by decide) h18), he3, hM_7.mono (Int.le_refl _) (by omega), (by omega), (by omega)⟩
    exact jj_loc [0, 1, 2, 3, 4, 5] rfl (jj_widen (by omega) (by omega) (hb g gd x cz e1 e2 pm5 pl hx hC1 hR9))

set_option maxHeartbeats 4000000 in
set_option maxRecDepth 100000 in
theorem law_c13 {p : Program} {l : Launch} {e : Env} {s : State} {m : MethodId} {below : List Frame} {meth : Method} {c : Code} (hl : l.stackTraces = false) {D : va_G} {cA : Nat → ClassId} {ak : (Nat → Nat) × (Nat → Nat)} {A : Nat → Prop} {b L : Nat} {xs : Nat → Int32} {Q : State → Prop} (C : jj_C p l s m #[Value.ref b] meth c code 9 R_law ret D cA A ak) (hX : va_X b L xs s s.heap) (hbl : b < s.heap.size) (hbA : ¬ A b) (hL : L ≤ 3072) {n h0 h1 ho hd : Nat} (hn : 6 * n + 6 ≤ L) (hb : ∀ (g : Nat → Int64) (gd : Nat → UInt64) (x : Nat) (cz : Nat → Int) (e1 : Nat) (e2 : Int32) (pR pC : va_W), x ≤ 400 → rw_C cA h0 x cz e1 e2 pC → rw_R cA (n + 1) h1 x cz e1 e2 pR → jj_J p l e room_1 s m #[Value.ref b] below meth c 9 A Q (jj_X D A (((ho, .inl (cA 2, 1, .inr (.inl g))) :: (hd, .inl (cA 4, 1, .inr (.inr (.inr (.inl gd))))) :: pR) ++ pC)) (200 + 64 * (n + 1)) (20000 + 414 * (n + 1)) 1435 [(0, .ref b), (1, .ref h0), (2, .ref h1), (3, .ref ho), (4, .ref hd), (5, .int (nI (6 * n)))] []) (g : Nat → Int64) (gd : Nat → UInt64) (x : Nat) (cz : Nat → Int) (e1 : Nat) (e2 : Int32) (pR pC : va_W) (hx : x ≤ 400) (hC : rw_C cA h0 x cz e1 e2 pC) (hR : rw_R cA n h1 x cz e1 e2 pR) : jj_J p l e room_1 s m #[Value.ref b] below meth c 9 A Q (jj_X D A (((ho, .inl (cA 2, 1, .inr (.inl g))) :: (hd, .inl (cA 4, 1, .inr (.inr (.inr (.inl gd))))) :: pR) ++ pC)) (200 + 64 * n) (20000 + 414 * n) 578 [(0, .ref b), (1, .ref h0), (2, .ref h1), (3, .ref ho), (4, .ref hd), (5, .int (nI (6 * n)))] [] := by
  have hxi : (nI x).toInt = (x : Int) := rl_ti (by omega)
  obtain ⟨K, a0, a9, u, k1, k2, k9, ok, f1, f0, f2, hu, hcu, fe1, fe2⟩ := hC
  refine jj_aload_n C dL_law_578 rfl ?_
  refine jj_aload_n C dL_law_579 rfl ?_
  refine jj_iload C dL_law_580 rfl ?_
  refine jj_iconst (v := 1) C dL_law_582 (by decide) ?_
  refine jj_iadd (v := nI (6 * n + 1)) C dL_law_583 (rl_addR (kn := 1) (by decide) rfl) ?_
  refine jj_xld C hX hbl hbA (k := 6 * n + 1) (by omega) hL dL_law_584 ?_
  refine jj_aload_n C dL_law_585 rfl ?_
  refine jj_iload C dL_law_586 rfl ?_
  refine jj_iconst (v := 2) C dL_law_588 (by decide) ?_
  refine jj_iadd (v := nI (6 * n + 2)) C dL_law_589 (rl_addR (kn := 2) (by decide) rfl) ?_
  refine jj_xld C hX hbl hbA (k := 6 * n + 2) (by omega) hL dL_law_590 ?_
  refine jj_aload_n C dL_law_591 rfl ?_
  refine jj_iload C dL_law_592 rfl ?_
  refine jj_iconst (v := 3) C dL_law_594 (by decide) ?_
  refine jj_iadd (v := nI (6 * n + 3)) C dL_law_595 (rl_addR (kn := 3) (by decide) rfl) ?_
  refine jj_xld C hX hbl hbA (k := 6 * n + 3) (by omega) hL dL_law_596 ?_
  refine jj_aload_n C dL_law_597 rfl ?_
  refine tt_callSW (rest := []) C (lm_transfer hl D cA ak h0 ho (xs (6 * n + 1)) (xs (6 * n + 2)) (xs (6 * n + 3)) g k1 ok) [0] _ rfl (rz_pk1 _ _) (by decide) (rz_ndd _ _) rz_dis1 jw_955b4c0fa1 jw_34c0505c7f jw_2ec6af59de jw_22302afebd jn_L_transfer rfl (jj_le rfl) (jj_le rfl) (by show (200 + 64 * n) + 63 ≤ 603072; omega) (by show (20000 + 414 * n) + 408 ≤ 7211114; omega) (jj_le rfl) dL_law_598 rfl (fun _ _ _ hX => hX.elim) (fun rx pl r O => ?_)
  obtain ⟨K1, hx1, ok1, fr1, fa1, g1, v1, rfl, rfl⟩ := O
  refine tt_rot ?_
  have hC1 : rw_C cA h0 x cz e1 e2 pl := ⟨K1, a0, a9, _, hx1.kd k1 (by decide), hx1.kd k2 (by decide), hx1.kd k9 (by decide), ok1, (fr1.at k1 (by decide) (by decide) f1), (fr1.at k2 (by decide) (by decide) f0), (fr1.at k2 (by decide) (by decide) f2), (fa1.at k9 (by decide) (by decide) hu), hcu, (fr1.at k1 (by decide) (by decide) fe1), (fr1.at k1 (by decide) (by decide) fe2)⟩
  refine jj_istore C dL_law_601 (by decide) rfl ?_
  refine jj_aload_n C dL_law_603 rfl ?_
  refine jj_aload_n C dL_law_604 rfl ?_
  refine jj_iload C dL_law_605 rfl ?_
  refine jj_iconst (v := 1) C dL_law_607 (by decide) ?_
  refine jj_iadd (v := nI (6 * n + 1)) C dL_law_608 (rl_addR (kn := 1) (by decide) rfl) ?_
  refine jj_xld C hX hbl hbA (k := 6 * n + 1) (by omega) hL dL_law_609 ?_
  refine jj_aload_n C dL_law_610 rfl ?_
  refine jj_iload C dL_law_611 rfl ?_
  refine jj_iconst (v := 2) C dL_law_613 (by decide) ?_
  refine jj_iadd (v := nI (6 * n + 2)) C dL_law_614 (rl_addR (kn := 2) (by decide) rfl) ?_
  refine jj_xld C hX hbl hbA (k := 6 * n + 2) (by omega) hL dL_law_615 ?_
  refine jj_aload_n C dL_law_616 rfl ?_
  refine jj_iload C dL_law_617 rfl ?_
  refine jj_iconst (v := 3) C dL_law_619 (by decide) ?_
  refine jj_iadd (v := nI (6 * n + 3)) C dL_law_620 (rl_addR (kn := 3) (by decide) rfl) ?_
  refine jj_xld C hX hbl hbA (k := 6 * n + 3) (by omega) hL dL_law_621 ?_
  obtain ⟨K2, aw, aa, at1, ai, af, ap, b9, B, um, hk, hk9, ok2, hm, h12, h13, hum, hcm, h17, h18, he3, hM, hB0, hBF⟩ := hR
  obtain ⟨f, P, n6, hc, hcp, h6, un6, hKK, hHP⟩ := hM
  refine tt_pools ?_
  obtain ⟨qd, gt, hqd⟩ := tt_recv (cx := []) ok2 hk.1 (by decide) rfl
  refine tt_callV (rest := []) C (rs_transfer hl D cA ak n6 (xs (6 * n + 1)) (xs (6 * n + 2)) (xs (6 * n + 3)) B (5000 * (n : Int)) f P hk.1 hk.2.1 hk.2.2.1 hk.2.2.2.1 hk.2.2.2.2.1 hk.2.2.2.2.2.1 hk.2.2.2.2.2.2 (by omega) (by omega) hKK hHP (by omega) (by omega) ⟨by omega, by omega⟩ ok2 hm hc hcp h6) [] _ rfl (rz_pkr _) (by decide) (rz_ndr _) rz_dis0 qd hqd rfl rfl jw_510d8f3359 jw_94ab88b694 jw_3457028440 jw_f96c99f44d jw_8070232b3c jn_X11_transfer rfl (jj_le rfl) (jj_le rfl) (by show (200 + 64 * n) + 63 + 0 ≤ 603072; omega) (by show (20000 + 414 * n) + 408 + 0 ≤ 7211114; omega) (jj_le rfl) dL_law_622 rfl (fun _ _ _ hX => hX.elim) (fun rx pm1 r O => ?_)
  obtain ⟨rfl, ok1, hf1, ha1, O⟩ := O
  refine tt_nilr ?_
  refine tt_pools ?_
  have hm_2 := hm.fr hf1 hk.1 (by decide)
  obtain ⟨hM_3, w_4, rfl⟩ := O
  refine jj_lstore C dL_law_625 (by decide) rfl ?_
  refine jj_goto (tgt := 1435) C dL_law_627 (by decide) ?_
  have hR9 : rw_R cA (n + 1) h1 x cz e1 e2 pm1 := ⟨K2, aw, aa, at1, ai, af, ap, b9, _, _, hk, hk9, ok1, hm_2, (hf1.at hk.1 (by decide) (by decide) h12), (hf1.at hk.1 (by decide) (by decide) h13), (ha1.at hk9 (by decide) (by decide) hum), hcm, (hf1.at hk.1 (by decide) (by decide) h17), (hf1.at hk.1 (by decide) (by decide) h18), he3, hM_3.mono (Int.le_refl _) (by omega), (by omega), (by omega)⟩
  exact jj_loc [2, 3, 4, 5, 6, 7] rfl (jj_widen (by omega) (by omega) (hb g1 gd x cz e1 e2 pm1 pl hx hC1 hR9))

set_option maxHeartbeats 4000000 in
set_option maxRecDepth 100000 in
theorem law_c14 {p : Program} {l : Launch} {e : Env} {s : State} {m : MethodId} {below : List Frame} {meth : Method} {c : Code} (hl : l.stackTraces = false) {D : va_G} {cA : Nat → ClassId} {ak : (Nat → Nat) × (Nat → Nat)} {A : Nat → Prop} {b L : Nat} {xs : Nat → Int32} {Q : State → Prop} (C : jj_C p l s m #[Value.ref b] meth c code 9 R_law ret D cA A ak) (hX : va_X b L xs s s.heap) (hbl : b < s.heap.size) (hbA : ¬ A b) (hL : L ≤ 3072) {n h0 h1 ho hd : Nat} (hn : 6 * n + 6 ≤ L) (hb : ∀ (g : Nat → Int64) (gd : Nat → UInt64) (x : Nat) (cz : Nat → Int) (e1 : Nat) (e2 : Int32) (pR pC : va_W), x ≤ 400 → rw_C cA h0 x cz e1 e2 pC → rw_R cA (n + 1) h1 x cz e1 e2 pR → jj_J p l e room_1 s m #[Value.ref b] below meth c 9 A Q (jj_X D A (((ho, .inl (cA 2, 1, .inr (.inl g))) :: (hd, .inl (cA 4, 1, .inr (.inr (.inr (.inl gd))))) :: pR) ++ pC)) (200 + 64 * (n + 1)) (20000 + 414 * (n + 1)) 1435 [(0, .ref b), (1, .ref h0), (2, .ref h1), (3, .ref ho), (4, .ref hd), (5, .int (nI (6 * n)))] []) (g : Nat → Int64) (gd : Nat → UInt64) (x : Nat) (cz : Nat → Int) (e1 : Nat) (e2 : Int32) (pR pC : va_W) (hx : x ≤ 400) (hC : rw_C cA h0 x cz e1 e2 pC) (hR : rw_R cA n h1 x cz e1 e2 pR) : jj_J p l e room_1 s m #[Value.ref b] below meth c 9 A Q (jj_X D A (((ho, .inl (cA 2, 1, .inr (.inl g))) :: (hd, .inl (cA 4, 1, .inr (.inr (.inr (.inl gd))))) :: pR) ++ pC)) (200 + 64 * n) (20000 + 414 * n) 630 [(0, .ref b), (1, .ref h0), (2, .ref h1), (3, .ref ho), (4, .ref hd), (5, .int (nI (6 * n)))] [] := by
  have hxi : (nI x).toInt = (x : Int) := rl_ti (by omega)
  obtain ⟨K, a0, a9, u, k1, k2, k9, ok, f1, f0, f2, hu, hcu, fe1, fe2⟩ := hC
  refine jj_aload_n C dL_law_630 rfl ?_
  refine jj_aload_n C dL_law_631 rfl ?_
  refine jj_iload C dL_law_632 rfl ?_
  refine jj_iconst (v := 1) C dL_law_634 (by decide) ?_
  refine jj_iadd (v := nI (6 * n + 1)) C dL_law_635 (rl_addR (kn := 1) (by decide) rfl) ?_
  refine jj_xld C hX hbl hbA (k := 6 * n + 1) (by omega) hL dL_law_636 ?_
  refine jj_aload_n C dL_law_637 rfl ?_
  refine tt_callSW (rest := []) C (lm_setGate hl D cA ak h0 ho (xs (6 * n + 1)) g k1 ok) [0] _ rfl (rz_pk1 _ _) (by decide) (rz_ndd _ _) rz_dis1 jw_1f0e30dec6 jw_0349953de1 jw_2ec6af59de jw_5c8724c074 jn_L_setGate rfl (jj_le rfl) (jj_le rfl) (by show (200 + 64 * n) + 63 ≤ 603072; omega) (by show (20000 + 414 * n) + 408 ≤ 7211114; omega) (jj_le rfl) dL_law_638 rfl (fun _ _ _ hX => hX.elim) (fun rx pl r O => ?_)
  obtain ⟨K1, hx1, ok1, fr1, fa1, g1, v1, rfl, rfl⟩ := O
  refine tt_rot ?_
  have hC1 : rw_C cA h0 x cz e1 e2 pl := ⟨K1, a0, a9, _, hx1.kd k1 (by decide), hx1.kd k2 (by decide), hx1.kd k9 (by decide), ok1, (fr1.at k1 (by decide) (by decide) f1), (fr1.at k2 (by decide) (by decide) f0), (fr1.at k2 (by decide) (by decide) f2), (fa1.at k9 (by decide) (by decide) hu), hcu, (fr1.at k1 (by decide) (by decide) fe1), (fr1.at k1 (by decide) (by decide) fe2)⟩
  refine jj_istore C dL_law_641 (by decide) rfl ?_
  refine jj_aload_n C dL_law_643 rfl ?_
  refine jj_aload_n C dL_law_644 rfl ?_
  refine jj_iload C dL_law_645 rfl ?_
  refine jj_iconst (v := 1) C dL_law_647 (by decide) ?_
  refine jj_iadd (v := nI (6 * n + 1)) C dL_law_648 (rl_addR (kn := 1) (by decide) rfl) ?_
  refine jj_xld C hX hbl hbA (k := 6 * n + 1) (by omega) hL dL_law_649 ?_
  obtain ⟨K2, aw, aa, at1, ai, af, ap, b9, B, um, hk, hk9, ok2, hm, h12, h13, hum, hcm, h17, h18, he3, hM, hB0, hBF⟩ := hR
  obtain ⟨f, P, n6, hc, hcp, h6, un6, hKK, hHP⟩ := hM
  refine tt_pools ?_
  obtain ⟨qd, gt, hqd⟩ := tt_recv (cx := []) ok2 hk.1 (by decide) rfl
  refine tt_callV (rest := []) C (rs_setGate hl D cA ak n6 (xs (6 * n + 1)) B (5000 * (n : Int)) f P hk.1 hk.2.1 hk.2.2.1 hk.2.2.2.1 hk.2.2.2.2.1 hk.2.2.2.2.2.1 hk.2.2.2.2.2.2 (by omega) (by omega) hKK hHP (by omega) (by omega) ⟨by omega, by omega⟩ ok2 hm hc hcp h6) [] _ rfl (rz_pkr _) (by decide) (rz_ndr _) rz_dis0 qd hqd rfl rfl jw_b30dec2d99 jw_3eb373d030 jw_70a7587271 jw_f96c99f44d jw_aaefcbbf36 jn_X11_setGate rfl (jj_le rfl) (jj_le rfl) (by show (200 + 64 * n) + 63 + 0 ≤ 603072; omega) (by show (20000 + 414 * n) + 408 + 0 ≤ 7211114; omega) (jj_le rfl) dL_law_650 rfl (fun _ _ _ hX => hX.elim) (fun rx pm1 r O => ?_)
  obtain ⟨rfl, ok1, hf1, ha1, O⟩ := O
  refine tt_nilr ?_
  refine tt_pools ?_
  have hm_2 := hm.fr hf1 hk.1 (by decide)
  obtain ⟨hM_3, w_4, rfl⟩ := O
  refine jj_istore C dL_law_653 (by decide) rfl ?_
  refine jj_goto (tgt := 1435) C dL_law_655 (by decide) ?_
  have hR9 : rw_R cA (n + 1) h1 x cz e1 e2 pm1 := ⟨K2, aw, aa, at1, ai, af, ap, b9, _, _, hk, hk9, ok1, hm_2, (hf1.at hk.1 (by decide) (by decide) h12), (hf1.at hk.1 (by decide) (by decide) h13), (ha1.at hk9 (by decide) (by decide) hum), hcm, (hf1.at hk.1 (by decide) (by decide) h17), (hf1.at hk.1 (by decide) (by decide) h18), he3, hM_3.mono (Int.le_refl _) (by omega), (by omega), (by omega)⟩
  exact jj_loc [2, 3, 4, 5, 6, 7] rfl (jj_widen (by omega) (by omega) (hb g1 gd x cz e1 e2 pm1 pl hx hC1 hR9))

set_option maxHeartbeats 4000000 in
set_option maxRecDepth 100000 in
theorem law_c15 {p : Program} {l : Launch} {e : Env} {s : State} {m : MethodId} {below : List Frame} {meth : Method} {c : Code} (hl : l.stackTraces = false) {D : va_G} {cA : Nat → ClassId} {ak : (Nat → Nat) × (Nat → Nat)} {A : Nat → Prop} {b L : Nat} {xs : Nat → Int32} {Q : State → Prop} (C : jj_C p l s m #[Value.ref b] meth c code 9 R_law ret D cA A ak) (hX : va_X b L xs s s.heap) (hbl : b < s.heap.size) (hbA : ¬ A b) (hL : L ≤ 3072) {n h0 h1 ho hd : Nat} (hn : 6 * n + 6 ≤ L) (hb : ∀ (g : Nat → Int64) (gd : Nat → UInt64) (x : Nat) (cz : Nat → Int) (e1 : Nat) (e2 : Int32) (pR pC : va_W), x ≤ 400 → rw_C cA h0 x cz e1 e2 pC → rw_R cA (n + 1) h1 x cz e1 e2 pR → jj_J p l e room_1 s m #[Value.ref b] below meth c 9 A Q (jj_X D A (((ho, .inl (cA 2, 1, .inr (.inl g))) :: (hd, .inl (cA 4, 1, .inr (.inr (.inr (.inl gd))))) :: pR) ++ pC)) (200 + 64 * (n + 1)) (20000 + 414 * (n + 1)) 1435 [(0, .ref b), (1, .ref h0), (2, .ref h1), (3, .ref ho), (4, .ref hd), (5, .int (nI (6 * n)))] []) (g : Nat → Int64) (gd : Nat → UInt64) (x : Nat) (cz : Nat → Int) (e1 : Nat) (e2 : Int32) (pR pC : va_W) (hx : x ≤ 400) (hC : rw_C cA h0 x cz e1 e2 pC) (hR : rw_R cA n h1 x cz e1 e2 pR) : jj_J p l e room_1 s m #[Value.ref b] below meth c 9 A Q (jj_X D A (((ho, .inl (cA 2, 1, .inr (.inl g))) :: (hd, .inl (cA 4, 1, .inr (.inr (.inr (.inl gd))))) :: pR) ++ pC)) (200 + 64 * n) (20000 + 414 * n) 658 [(0, .ref b), (1, .ref h0), (2, .ref h1), (3, .ref ho), (4, .ref hd), (5, .int (nI (6 * n)))] [] := by
  have hxi : (nI x).toInt = (x : Int) := rl_ti (by omega)
  obtain ⟨K, a0, a9, u, k1, k2, k9, ok, f1, f0, f2, hu, hcu, fe1, fe2⟩ := hC
  refine jj_aload_n C dL_law_658 rfl ?_
  obtain ⟨qc, gs, hqc⟩ := tt_recv (cx := []) ok k1 (by decide) rfl
  refine tt_callV (rest := []) C (tf_runScript hl D cA ak h0 a0 k1 k2 ok f1) [] _ rfl (rz_pkr _) (by decide) (rz_ndr _) rz_dis0 qc hqc rfl rfl jw_e29168d1e9 jw_4b0906bb02 jw_7e0e248041 jw_6f6d707074 jw_afb4873726 jn_X10_runScript rfl (jj_le rfl) (jj_le rfl) (by show (200 + 64 * n) + 64 ≤ 603072; omega) (by show (20000 + 414 * n) + 414 ≤ 7211114; omega) (jj_le rfl) dL_law_659 rfl (fun _ _ _ hX => hX.elim) (fun rx pl r O => ?_)
  obtain ⟨K1, hx1, rfl, ok1, fr1, fa1, ⟨fA, v1, rfl⟩⟩ := O
  refine tt_nilr ?_
  rw [rz_n0] at fA
  have hC1 : rw_C cA h0 0 cz e1 e2 pl := ⟨K1, a0, a9, _, hx1.kd k1 (by decide), hx1.kd k2 (by decide), hx1.kd k9 (by decide), ok1, (fr1.at k1 (by decide) (by decide) f1), (fr1.at k2 (by decide) (by decide) f0), fA, (fa1.at k9 (by decide) (by decide) hu), (fun k hk => absurd hk (Nat.not_lt_zero _)), (fr1.at k1 (by decide) (by decide) fe1), (fr1.at k1 (by decide) (by decide) fe2)⟩
  refine jj_pop C dL_law_662 rfl ?_
  refine jj_aload_n C dL_law_663 rfl ?_
  obtain ⟨K2, aw, aa, at1, ai, af, ap, b9, B, um, hk, hk9, ok2, hm, h12, h13, hum, hcm, h17, h18, he3, hM, hB0, hBF⟩ := hR
  obtain ⟨f, P, n6, hc, hcp, h6, un6, hKK, hHP⟩ := hM
  refine tt_pools ?_
  obtain ⟨qd, gt, hqd⟩ := tt_recv (cx := []) ok2 hk.1 (by decide) rfl
  refine tt_callV (rest := []) C (re_runScript hl D cA ak e2 e1 x n6 B (5000 * (n : Int)) f P hk.1 hk.2.1 hk.2.2.1 hk.2.2.2.1 hk.2.2.2.2.1 hk.2.2.2.2.2.1 hk.2.2.2.2.2.2 (tt_lo _) (tt_hi _) (by omega) (by omega) (by omega) (by omega) (by omega) (by omega) hKK hHP (by omega) (by omega) ⟨by omega, by omega⟩ ok2 hm hc hcp h6 h13 h17 h18) [] _ rfl (rz_pkr _) (by decide) (rz_ndr _) rz_dis0 qd hqd rfl rfl jw_8870527085 jw_bf73bb54e1 jw_c2d2aff190 jw_f96c99f44d jw_e962e6245a jn_X11_runScript rfl (jj_le rfl) (jj_le rfl) (by show (200 + 64 * n) + 64 + 0 ≤ 603072; omega) (by show (20000 + 414 * n) + 414 + 0 ≤ 7211114; omega) (jj_le rfl) dL_law_664 rfl (fun _ _ _ hX => hX.elim) (fun rx pm1 r O => ?_)
  obtain ⟨rfl, ok1, hf1, ha1, O⟩ := O
  refine tt_nilr ?_
  refine tt_pools ?_
  have hm_2 := hm.fr hf1 hk.1 (by decide)
  obtain ⟨hM_3, s13, s17, s18, w_4, rfl⟩ := O
  rw [rz_n0] at s13
  refine jj_pop C dL_law_667 rfl ?_
  refine jj_goto (tgt := 1435) C dL_law_668 (by decide) ?_
  have hR9 : rw_R cA (n + 1) h1 0 cz e1 e2 pm1 := ⟨K2, aw, aa, at1, ai, af, ap, b9, _, _, hk, hk9, ok1, hm_2, (hf1.at hk.1 (by decide) (by decide) h12), s13, (ha1.at hk9 (by decide) (by decide) hum), (fun k hk => absurd hk (Nat.not_lt_zero _)), s17, s18, he3, hM_3.mono (Int.le_refl _) (by omega), (by omega), (by omega)⟩
  exact jj_loc [0, 1, 2, 3, 4, 5] rfl (jj_widen (by omega) (by omega) (hb g gd 0 cz e1 e2 pm1 pl (by omega) hC1 hR9))

set_option maxHeartbeats 4000000 in
set_option maxRecDepth 100000 in
theorem law_c16 {p : Program} {l : Launch} {e : Env} {s : State} {m : MethodId} {below : List Frame} {meth : Method} {c : Code} (hl : l.stackTraces = false) {D : va_G} {cA : Nat → ClassId} {ak : (Nat → Nat) × (Nat → Nat)} {A : Nat → Prop} {b L : Nat} {xs : Nat → Int32} {Q : State → Prop} (C : jj_C p l s m #[Value.ref b] meth c code 9 R_law ret D cA A ak) (hX : va_X b L xs s s.heap) (hbl : b < s.heap.size) (hbA : ¬ A b) (hL : L ≤ 3072) {n h0 h1 ho hd : Nat} (hn : 6 * n + 6 ≤ L) (hb : ∀ (g : Nat → Int64) (gd : Nat → UInt64) (x : Nat) (cz : Nat → Int) (e1 : Nat) (e2 : Int32) (pR pC : va_W), x ≤ 400 → rw_C cA h0 x cz e1 e2 pC → rw_R cA (n + 1) h1 x cz e1 e2 pR → jj_J p l e room_1 s m #[Value.ref b] below meth c 9 A Q (jj_X D A (((ho, .inl (cA 2, 1, .inr (.inl g))) :: (hd, .inl (cA 4, 1, .inr (.inr (.inr (.inl gd))))) :: pR) ++ pC)) (200 + 64 * (n + 1)) (20000 + 414 * (n + 1)) 1435 [(0, .ref b), (1, .ref h0), (2, .ref h1), (3, .ref ho), (4, .ref hd), (5, .int (nI (6 * n)))] []) (g : Nat → Int64) (gd : Nat → UInt64) (x : Nat) (cz : Nat → Int) (e1 : Nat) (e2 : Int32) (pR pC : va_W) (hx : x ≤ 400) (hC : rw_C cA h0 x cz e1 e2 pC) (hR : rw_R cA n h1 x cz e1 e2 pR) : jj_J p l e room_1 s m #[Value.ref b] below meth c 9 A Q (jj_X D A (((ho, .inl (cA 2, 1, .inr (.inl g))) :: (hd, .inl (cA 4, 1, .inr (.inr (.inr (.inl gd))))) :: pR) ++ pC)) (200 + 64 * n) (20000 + 414 * n) 671 [(0, .ref b), (1, .ref h0), (2, .ref h1), (3, .ref ho), (4, .ref hd), (5, .int (nI (6 * n)))] [] := by
  have hxi : (nI x).toInt = (x : Int) := rl_ti (by omega)
  obtain ⟨K, a0, a9, u, k1, k2, k9, ok, f1, f0, f2, hu, hcu, fe1, fe2⟩ := hC
  refine jj_aload_n C dL_law_671 rfl ?_
  refine jj_aload_n C dL_law_672 rfl ?_
  refine jj_iload C dL_law_673 rfl ?_
  refine jj_iconst (v := 1) C dL_law_675 (by decide) ?_
  refine jj_iadd (v := nI (6 * n + 1)) C dL_law_676 (rl_addR (kn := 1) (by decide) rfl) ?_
  refine jj_xld C hX hbl hbA (k := 6 * n + 1) (by omega) hL dL_law_677 ?_
  refine jj_aload_n C dL_law_678 rfl ?_
  refine tt_callSW (rest := []) C (lm_count hl D cA ak h0 ho (xs (6 * n + 1)) g k1 ok) [0] _ rfl (rz_pk1 _ _) (by decide) (rz_ndd _ _) rz_dis1 jw_2db85adf66 jw_49c9eaf352 jw_2ec6af59de jw_c8f9bf07c6 jn_L_count rfl (jj_le rfl) (jj_le rfl) (by show (200 + 64 * n) + 1 ≤ 603072; omega) (by show (20000 + 414 * n) + 6 ≤ 7211114; omega) (jj_le rfl) dL_law_679 rfl (fun _ _ _ hX => hX.elim) (fun rx pl r O => ?_)
  obtain ⟨K1, hx1, ok1, fr1, fa1, g1, v1, rfl, rfl⟩ := O
  refine tt_rot ?_
  have hC1 : rw_C cA h0 x cz e1 e2 pl := ⟨K1, a0, a9, _, hx1.kd k1 (by decide), hx1.kd k2 (by decide), hx1.kd k9 (by decide), ok1, (fr1.at k1 (by decide) (by decide) f1), (fr1.at k2 (by decide) (by decide) f0), (fr1.at k2 (by decide) (by decide) f2), (fa1.at k9 (by decide) (by decide) hu), hcu, (fr1.at k1 (by decide) (by decide) fe1), (fr1.at k1 (by decide) (by decide) fe2)⟩
  refine jj_istore C dL_law_682 (by decide) rfl ?_
  refine jj_aload_n C dL_law_684 rfl ?_
  refine jj_aload_n C dL_law_685 rfl ?_
  refine jj_iload C dL_law_686 rfl ?_
  refine jj_iconst (v := 1) C dL_law_688 (by decide) ?_
  refine jj_iadd (v := nI (6 * n + 1)) C dL_law_689 (rl_addR (kn := 1) (by decide) rfl) ?_
  refine jj_xld C hX hbl hbA (k := 6 * n + 1) (by omega) hL dL_law_690 ?_
  obtain ⟨K2, aw, aa, at1, ai, af, ap, b9, B, um, hk, hk9, ok2, hm, h12, h13, hum, hcm, h17, h18, he3, hM, hB0, hBF⟩ := hR
  obtain ⟨f, P, n6, hc, hcp, h6, un6, hKK, hHP⟩ := hM
  refine tt_pools ?_
  obtain ⟨qd, gt, hqd⟩ := tt_recv (cx := []) ok2 hk.1 (by decide) rfl
  refine tt_callV (rest := []) C (rs_count hl D cA ak n6 (xs (6 * n + 1)) B (5000 * (n : Int)) f P hk.1 hk.2.1 hk.2.2.1 hk.2.2.2.1 hk.2.2.2.2.1 hk.2.2.2.2.2.1 hk.2.2.2.2.2.2 (by omega) (by omega) hKK hHP (by omega) (by omega) ⟨by omega, by omega⟩ ok2 hm hc hcp h6) [] _ rfl (rz_pkr _) (by decide) (rz_ndr _) rz_dis0 qd hqd rfl rfl jw_3d398c370b jw_e192db6160 jw_c440fc4357 jw_f96c99f44d jw_56287947ed jn_X11_count rfl (jj_le rfl) (jj_le rfl) (by show (200 + 64 * n) + 1 + 0 ≤ 603072; omega) (by show (20000 + 414 * n) + 6 + 0 ≤ 7211114; omega) (jj_le rfl) dL_law_691 rfl (fun _ _ _ hX => hX.elim) (fun rx pm1 r O => ?_)
  obtain ⟨rfl, ok1, hf1, ha1, O⟩ := O
  refine tt_nilr ?_
  refine tt_pools ?_
  have hm_2 := hm.fr hf1 hk.1 (by decide)
  obtain ⟨hM_3, w_4, rfl⟩ := O
  refine jj_istore C dL_law_694 (by decide) rfl ?_
  refine jj_goto (tgt := 1435) C dL_law_696 (by decide) ?_
  have hR9 : rw_R cA (n + 1) h1 x cz e1 e2 pm1 := ⟨K2, aw, aa, at1, ai, af, ap, b9, _, _, hk, hk9, ok1, hm_2, (hf1.at hk.1 (by decide) (by decide) h12), (hf1.at hk.1 (by decide) (by decide) h13), (ha1.at hk9 (by decide) (by decide) hum), hcm, (hf1.at hk.1 (by decide) (by decide) h17), (hf1.at hk.1 (by decide) (by decide) h18), he3, hM_3.mono (Int.le_refl _) (by omega), (by omega), (by omega)⟩
  exact jj_loc [2, 3, 4, 5, 6, 7] rfl (jj_widen (by omega) (by omega) (hb g1 gd x cz e1 e2 pm1 pl hx hC1 hR9))

set_option maxHeartbeats 4000000 in
set_option maxRecDepth 100000 in
theorem law_c17 {p : Program} {l : Launch} {e : Env} {s : State} {m : MethodId} {below : List Frame} {meth : Method} {c : Code} (hl : l.stackTraces = false) {D : va_G} {cA : Nat → ClassId} {ak : (Nat → Nat) × (Nat → Nat)} {A : Nat → Prop} {b L : Nat} {xs : Nat → Int32} {Q : State → Prop} (C : jj_C p l s m #[Value.ref b] meth c code 9 R_law ret D cA A ak) (hX : va_X b L xs s s.heap) (hbl : b < s.heap.size) (hbA : ¬ A b) (hL : L ≤ 3072) {n h0 h1 ho hd : Nat} (hn : 6 * n + 6 ≤ L) (hb : ∀ (g : Nat → Int64) (gd : Nat → UInt64) (x : Nat) (cz : Nat → Int) (e1 : Nat) (e2 : Int32) (pR pC : va_W), x ≤ 400 → rw_C cA h0 x cz e1 e2 pC → rw_R cA (n + 1) h1 x cz e1 e2 pR → jj_J p l e room_1 s m #[Value.ref b] below meth c 9 A Q (jj_X D A (((ho, .inl (cA 2, 1, .inr (.inl g))) :: (hd, .inl (cA 4, 1, .inr (.inr (.inr (.inl gd))))) :: pR) ++ pC)) (200 + 64 * (n + 1)) (20000 + 414 * (n + 1)) 1435 [(0, .ref b), (1, .ref h0), (2, .ref h1), (3, .ref ho), (4, .ref hd), (5, .int (nI (6 * n)))] []) (g : Nat → Int64) (gd : Nat → UInt64) (x : Nat) (cz : Nat → Int) (e1 : Nat) (e2 : Int32) (pR pC : va_W) (hx : x ≤ 400) (hC : rw_C cA h0 x cz e1 e2 pC) (hR : rw_R cA n h1 x cz e1 e2 pR) : jj_J p l e room_1 s m #[Value.ref b] below meth c 9 A Q (jj_X D A (((ho, .inl (cA 2, 1, .inr (.inl g))) :: (hd, .inl (cA 4, 1, .inr (.inr (.inr (.inl gd))))) :: pR) ++ pC)) (200 + 64 * n) (20000 + 414 * n) 699 [(0, .ref b), (1, .ref h0), (2, .ref h1), (3, .ref ho), (4, .ref hd), (5, .int (nI (6 * n)))] [] := by
  have hxi : (nI x).toInt = (x : Int) := rl_ti (by omega)
  obtain ⟨K, a0, a9, u, k1, k2, k9, ok, f1, f0, f2, hu, hcu, fe1, fe2⟩ := hC
  refine jj_aload_n C dL_law_699 rfl ?_
  obtain ⟨qc, gs, hqc⟩ := tt_recv (cx := []) ok k1 (by decide) rfl
  refine tt_callV (rest := []) C (tc_X10_netAssets_1 hl D cA ak h0 k1 ok) [] _ rfl (rz_pkr _) (by decide) (rz_ndr _) rz_dis0 qc hqc rfl rfl jw_cde6465fcf jw_cd5eb1919c jw_6caa6141fd jw_6f6d707074 jw_f07e8aa61a jn_X10_netAssets rfl (jj_le rfl) (jj_le rfl) (by show (200 + 64 * n) + 0 ≤ 603072; omega) (by show (20000 + 414 * n) + 0 ≤ 7211114; omega) (jj_le rfl) dL_law_700 rfl (fun _ _ _ hX => hX.elim) (fun rx pl r O => ?_)
  obtain ⟨rfl, ok1, fr1, fa1, ⟨v1, rfl⟩⟩ := O
  refine tt_nilr ?_
  have hC1 : rw_C cA h0 x cz e1 e2 pl := ⟨K, a0, a9, _, (tt_ex.refl _).kd k1 (by decide), (tt_ex.refl _).kd k2 (by decide), (tt_ex.refl _).kd k9 (by decide), ok1, (fr1.at k1 (by decide) (by decide) f1), (fr1.at k2 (by decide) (by decide) f0), (fr1.at k2 (by decide) (by decide) f2), (fa1.at k9 (by decide) (by decide) hu), hcu, (fr1.at k1 (by decide) (by decide) fe1), (fr1.at k1 (by decide) (by decide) fe2)⟩
  refine jj_pop2 C dL_law_703 rfl ?_
  refine jj_aload_n C dL_law_704 rfl ?_
  obtain ⟨K2, aw, aa, at1, ai, af, ap, b9, B, um, hk, hk9, ok2, hm, h12, h13, hum, hcm, h17, h18, he3, hM, hB0, hBF⟩ := hR
  obtain ⟨f, P, n6, hc, hcp, h6, un6, hKK, hHP⟩ := hM
  refine tt_pools ?_
  obtain ⟨qd, gt, hqd⟩ := tt_recv (cx := []) ok2 hk.1 (by decide) rfl
  refine tt_callV (rest := []) C (rs_netAssets hl D cA ak n6 B (5000 * (n : Int)) f P hk.1 hk.2.1 hk.2.2.1 hk.2.2.2.1 hk.2.2.2.2.1 hk.2.2.2.2.2.1 hk.2.2.2.2.2.2 (by omega) (by omega) hKK hHP (by omega) (by omega) ⟨by omega, by omega⟩ ok2 hm hc hcp h6) [] _ rfl (rz_pkr _) (by decide) (rz_ndr _) rz_dis0 qd hqd rfl rfl jw_882baae353 jw_0c4f5d14cc jw_fba9930fab jw_f96c99f44d jw_fa9e5a17f3 jn_X11_netAssets rfl (jj_le rfl) (jj_le rfl) (by show (200 + 64 * n) + 0 + 0 ≤ 603072; omega) (by show (20000 + 414 * n) + 0 + 0 ≤ 7211114; omega) (jj_le rfl) dL_law_705 rfl (fun _ _ _ hX => hX.elim) (fun rx pm1 r O => ?_)
  obtain ⟨rfl, ok1, hf1, ha1, O⟩ := O
  refine tt_nilr ?_
  refine tt_pools ?_
  have hm_2 := hm.fr hf1 hk.1 (by decide)
  obtain ⟨hM_3, w_4, rfl⟩ := O
  refine jj_pop2 C dL_law_708 rfl ?_
  refine jj_goto (tgt := 1435) C dL_law_709 (by decide) ?_
  have hR9 : rw_R cA (n + 1) h1 x cz e1 e2 pm1 := ⟨K2, aw, aa, at1, ai, af, ap, b9, _, _, hk, hk9, ok1, hm_2, (hf1.at hk.1 (by decide) (by decide) h12), (hf1.at hk.1 (by decide) (by decide) h13), (ha1.at hk9 (by decide) (by decide) hum), hcm, (hf1.at hk.1 (by decide) (by decide) h17), (hf1.at hk.1 (by decide) (by decide) h18), he3, hM_3.mono (Int.le_refl _) (by omega), (by omega), (by omega)⟩
  exact jj_loc [0, 1, 2, 3, 4, 5] rfl (jj_widen (by omega) (by omega) (hb g gd x cz e1 e2 pm1 pl hx hC1 hR9))

set_option maxHeartbeats 4000000 in
set_option maxRecDepth 100000 in
theorem law_c18 {p : Program} {l : Launch} {e : Env} {s : State} {m : MethodId} {below : List Frame} {meth : Method} {c : Code} (hl : l.stackTraces = false) {D : va_G} {cA : Nat → ClassId} {ak : (Nat → Nat) × (Nat → Nat)} {A : Nat → Prop} {b L : Nat} {xs : Nat → Int32} {Q : State → Prop} (C : jj_C p l s m #[Value.ref b] meth c code 9 R_law ret D cA A ak) (hX : va_X b L xs s s.heap) (hbl : b < s.heap.size) (hbA : ¬ A b) (hL : L ≤ 3072) {n h0 h1 ho hd : Nat} (hn : 6 * n + 6 ≤ L) (hb : ∀ (g : Nat → Int64) (gd : Nat → UInt64) (x : Nat) (cz : Nat → Int) (e1 : Nat) (e2 : Int32) (pR pC : va_W), x ≤ 400 → rw_C cA h0 x cz e1 e2 pC → rw_R cA (n + 1) h1 x cz e1 e2 pR → jj_J p l e room_1 s m #[Value.ref b] below meth c 9 A Q (jj_X D A (((ho, .inl (cA 2, 1, .inr (.inl g))) :: (hd, .inl (cA 4, 1, .inr (.inr (.inr (.inl gd))))) :: pR) ++ pC)) (200 + 64 * (n + 1)) (20000 + 414 * (n + 1)) 1435 [(0, .ref b), (1, .ref h0), (2, .ref h1), (3, .ref ho), (4, .ref hd), (5, .int (nI (6 * n)))] []) (g : Nat → Int64) (gd : Nat → UInt64) (x : Nat) (cz : Nat → Int) (e1 : Nat) (e2 : Int32) (pR pC : va_W) (hx : x ≤ 400) (hC : rw_C cA h0 x cz e1 e2 pC) (hR : rw_R cA n h1 x cz e1 e2 pR) : jj_J p l e room_1 s m #[Value.ref b] below meth c 9 A Q (jj_X D A (((ho, .inl (cA 2, 1, .inr (.inl g))) :: (hd, .inl (cA 4, 1, .inr (.inr (.inr (.inl gd))))) :: pR) ++ pC)) (200 + 64 * n) (20000 + 414 * n) 712 [(0, .ref b), (1, .ref h0), (2, .ref h1), (3, .ref ho), (4, .ref hd), (5, .int (nI (6 * n)))] [] := by
  have hxi : (nI x).toInt = (x : Int) := rl_ti (by omega)
  obtain ⟨K, a0, a9, u, k1, k2, k9, ok, f1, f0, f2, hu, hcu, fe1, fe2⟩ := hC
  refine jj_aload_n C dL_law_712 rfl ?_
  refine jj_aload_n C dL_law_713 rfl ?_
  refine jj_iload C dL_law_714 rfl ?_
  refine jj_iconst (v := 1) C dL_law_716 (by decide) ?_
  refine jj_iadd (v := nI (6 * n + 1)) C dL_law_717 (rl_addR (kn := 1) (by decide) rfl) ?_
  refine jj_xld C hX hbl hbA (k := 6 * n + 1) (by omega) hL dL_law_718 ?_
  refine jj_aload_n C dL_law_719 rfl ?_
  refine tt_callSW (rest := []) C (lm_account hl D cA ak h0 ho (xs (6 * n + 1)) g k1 ok) [0] _ rfl (rz_pk1 _ _) (by decide) (rz_ndd _ _) rz_dis1 jw_01a3e1dc18 jw_984971555c jw_2ec6af59de jw_e7cf068d63 jn_L_account rfl (jj_le rfl) (jj_le rfl) (by show (200 + 64 * n) + 1 ≤ 603072; omega) (by show (20000 + 414 * n) + 6 ≤ 7211114; omega) (jj_le rfl) dL_law_720 rfl (fun _ _ _ hX => hX.elim) (fun rx pl r O => ?_)
  obtain ⟨K1, hx1, ok1, fr1, fa1, g1, v1, rfl, rfl⟩ := O
  refine tt_rot ?_
  have hC1 : rw_C cA h0 x cz e1 e2 pl := ⟨K1, a0, a9, _, hx1.kd k1 (by decide), hx1.kd k2 (by decide), hx1.kd k9 (by decide), ok1, (fr1.at k1 (by decide) (by decide) f1), (fr1.at k2 (by decide) (by decide) f0), (fr1.at k2 (by decide) (by decide) f2), (fa1.at k9 (by decide) (by decide) hu), hcu, (fr1.at k1 (by decide) (by decide) fe1), (fr1.at k1 (by decide) (by decide) fe2)⟩
  refine jj_istore C dL_law_723 (by decide) rfl ?_
  refine jj_aload_n C dL_law_725 rfl ?_
  refine jj_aload_n C dL_law_726 rfl ?_
  refine jj_iload C dL_law_727 rfl ?_
  refine jj_iconst (v := 1) C dL_law_729 (by decide) ?_
  refine jj_iadd (v := nI (6 * n + 1)) C dL_law_730 (rl_addR (kn := 1) (by decide) rfl) ?_
  refine jj_xld C hX hbl hbA (k := 6 * n + 1) (by omega) hL dL_law_731 ?_
  obtain ⟨K2, aw, aa, at1, ai, af, ap, b9, B, um, hk, hk9, ok2, hm, h12, h13, hum, hcm, h17, h18, he3, hM, hB0, hBF⟩ := hR
  obtain ⟨f, P, n6, hc, hcp, h6, un6, hKK, hHP⟩ := hM
  refine tt_pools ?_
  obtain ⟨qd, gt, hqd⟩ := tt_recv (cx := []) ok2 hk.1 (by decide) rfl
  refine tt_callV (rest := []) C (rs_account hl D cA ak n6 (xs (6 * n + 1)) B (5000 * (n : Int)) f P hk.1 hk.2.1 hk.2.2.1 hk.2.2.2.1 hk.2.2.2.2.1 hk.2.2.2.2.2.1 hk.2.2.2.2.2.2 (by omega) (by omega) hKK hHP (by omega) (by omega) ⟨by omega, by omega⟩ ok2 hm hc hcp h6) [] _ rfl (rz_pkr _) (by decide) (rz_ndr _) rz_dis0 qd hqd rfl rfl jw_6ef458da81 jw_f0b19bc934 jw_974a4f3e86 jw_f96c99f44d jw_3e9460b5de jn_X11_account rfl (jj_le rfl) (jj_le rfl) (by show (200 + 64 * n) + 1 + 0 ≤ 603072; omega) (by show (20000 + 414 * n) + 6 + 0 ≤ 7211114; omega) (jj_le rfl) dL_law_732 rfl (fun _ _ _ hX => hX.elim) (fun rx pm1 r O => ?_)
  obtain ⟨rfl, ok1, hf1, ha1, O⟩ := O
  refine tt_nilr ?_
  refine tt_pools ?_
  have hm_2 := hm.fr hf1 hk.1 (by decide)
  obtain ⟨hM_3, w_4, rfl⟩ := O
  refine jj_lstore C dL_law_735 (by decide) rfl ?_
  refine jj_goto (tgt := 1435) C dL_law_737 (by decide) ?_
  have hR9 : rw_R cA (n + 1) h1 x cz e1 e2 pm1 := ⟨K2, aw, aa, at1, ai, af, ap, b9, _, _, hk, hk9, ok1, hm_2, (hf1.at hk.1 (by decide) (by decide) h12), (hf1.at hk.1 (by decide) (by decide) h13), (ha1.at hk9 (by decide) (by decide) hum), hcm, (hf1.at hk.1 (by decide) (by decide) h17), (hf1.at hk.1 (by decide) (by decide) h18), he3, hM_3.mono (Int.le_refl _) (by omega), (by omega), (by omega)⟩
  exact jj_loc [2, 3, 4, 5, 6, 7] rfl (jj_widen (by omega) (by omega) (hb g1 gd x cz e1 e2 pm1 pl hx hC1 hR9))

set_option maxHeartbeats 4000000 in
set_option maxRecDepth 100000 in
theorem law_c19 {p : Program} {l : Launch} {e : Env} {s : State} {m : MethodId} {below : List Frame} {meth : Method} {c : Code} (hl : l.stackTraces = false) {D : va_G} {cA : Nat → ClassId} {ak : (Nat → Nat) × (Nat → Nat)} {A : Nat → Prop} {b L : Nat} {xs : Nat → Int32} {Q : State → Prop} (C : jj_C p l s m #[Value.ref b] meth c code 9 R_law ret D cA A ak) (hX : va_X b L xs s s.heap) (hbl : b < s.heap.size) (hbA : ¬ A b) (hL : L ≤ 3072) {n h0 h1 ho hd : Nat} (hn : 6 * n + 6 ≤ L) (hb : ∀ (g : Nat → Int64) (gd : Nat → UInt64) (x : Nat) (cz : Nat → Int) (e1 : Nat) (e2 : Int32) (pR pC : va_W), x ≤ 400 → rw_C cA h0 x cz e1 e2 pC → rw_R cA (n + 1) h1 x cz e1 e2 pR → jj_J p l e room_1 s m #[Value.ref b] below meth c 9 A Q (jj_X D A (((ho, .inl (cA 2, 1, .inr (.inl g))) :: (hd, .inl (cA 4, 1, .inr (.inr (.inr (.inl gd))))) :: pR) ++ pC)) (200 + 64 * (n + 1)) (20000 + 414 * (n + 1)) 1435 [(0, .ref b), (1, .ref h0), (2, .ref h1), (3, .ref ho), (4, .ref hd), (5, .int (nI (6 * n)))] []) (g : Nat → Int64) (gd : Nat → UInt64) (x : Nat) (cz : Nat → Int) (e1 : Nat) (e2 : Int32) (pR pC : va_W) (hx : x ≤ 400) (hC : rw_C cA h0 x cz e1 e2 pC) (hR : rw_R cA n h1 x cz e1 e2 pR) : jj_J p l e room_1 s m #[Value.ref b] below meth c 9 A Q (jj_X D A (((ho, .inl (cA 2, 1, .inr (.inl g))) :: (hd, .inl (cA 4, 1, .inr (.inr (.inr (.inl gd))))) :: pR) ++ pC)) (200 + 64 * n) (20000 + 414 * n) 740 [(0, .ref b), (1, .ref h0), (2, .ref h1), (3, .ref ho), (4, .ref hd), (5, .int (nI (6 * n)))] [] := by
  have hxi : (nI x).toInt = (x : Int) := rl_ti (by omega)
  obtain ⟨K, a0, a9, u, k1, k2, k9, ok, f1, f0, f2, hu, hcu, fe1, fe2⟩ := hC
  refine jj_aload_n C dL_law_740 rfl ?_
  refine jj_aload_n C dL_law_741 rfl ?_
  refine jj_iload C dL_law_742 rfl ?_
  refine jj_iconst (v := 1) C dL_law_744 (by decide) ?_
  refine jj_iadd (v := nI (6 * n + 1)) C dL_law_745 (rl_addR (kn := 1) (by decide) rfl) ?_
  refine jj_xld C hX hbl hbA (k := 6 * n + 1) (by omega) hL dL_law_746 ?_
  refine jj_aload_n C dL_law_747 rfl ?_
  refine tt_callSW (rest := []) C (lm_openSeries hl D cA ak h0 ho (xs (6 * n + 1)) g k1 ok) [0] _ rfl (rz_pk1 _ _) (by decide) (rz_ndd _ _) rz_dis1 jw_ed9b06963f jw_91a6d48e89 jw_2ec6af59de jw_fcb27d7b3e jn_L_openSeries rfl (jj_le rfl) (jj_le rfl) (by show (200 + 64 * n) + 1 ≤ 603072; omega) (by show (20000 + 414 * n) + 6 ≤ 7211114; omega) (jj_le rfl) dL_law_748 rfl (fun _ _ _ hX => hX.elim) (fun rx pl r O => ?_)
  obtain ⟨K1, hx1, ok1, fr1, fa1, g1, v1, rfl, rfl⟩ := O
  refine tt_rot ?_
  have hC1 : rw_C cA h0 x cz e1 e2 pl := ⟨K1, a0, a9, _, hx1.kd k1 (by decide), hx1.kd k2 (by decide), hx1.kd k9 (by decide), ok1, (fr1.at k1 (by decide) (by decide) f1), (fr1.at k2 (by decide) (by decide) f0), (fr1.at k2 (by decide) (by decide) f2), (fa1.at k9 (by decide) (by decide) hu), hcu, (fr1.at k1 (by decide) (by decide) fe1), (fr1.at k1 (by decide) (by decide) fe2)⟩
  refine jj_istore C dL_law_751 (by decide) rfl ?_
  refine jj_aload_n C dL_law_753 rfl ?_
  refine jj_aload_n C dL_law_754 rfl ?_
  refine jj_iload C dL_law_755 rfl ?_
  refine jj_iconst (v := 1) C dL_law_757 (by decide) ?_
  refine jj_iadd (v := nI (6 * n + 1)) C dL_law_758 (rl_addR (kn := 1) (by decide) rfl) ?_
  refine jj_xld C hX hbl hbA (k := 6 * n + 1) (by omega) hL dL_law_759 ?_
  obtain ⟨K2, aw, aa, at1, ai, af, ap, b9, B, um, hk, hk9, ok2, hm, h12, h13, hum, hcm, h17, h18, he3, hM, hB0, hBF⟩ := hR
  obtain ⟨f, P, n6, hc, hcp, h6, un6, hKK, hHP⟩ := hM
  refine tt_pools ?_
  obtain ⟨qd, gt, hqd⟩ := tt_recv (cx := []) ok2 hk.1 (by decide) rfl
  refine tt_callV (rest := []) C (rs_openSeries hl D cA ak n6 (xs (6 * n + 1)) B (5000 * (n : Int)) f P hk.1 hk.2.1 hk.2.2.1 hk.2.2.2.1 hk.2.2.2.2.1 hk.2.2.2.2.2.1 hk.2.2.2.2.2.2 (by omega) (by omega) hKK hHP (by omega) (by omega) ⟨by omega, by omega⟩ ok2 hm hc hcp h6) [] _ rfl (rz_pkr _) (by decide) (rz_ndr _) rz_dis0 qd hqd rfl rfl jw_89552c3d75 jw_116fd4a935 jw_81bfa8827a jw_f96c99f44d jw_5fffbc3722 jn_X11_openSeries rfl (jj_le rfl) (jj_le rfl) (by show (200 + 64 * n) + 1 + 0 ≤ 603072; omega) (by show (20000 + 414 * n) + 6 + 0 ≤ 7211114; omega) (jj_le rfl) dL_law_760 rfl (fun _ _ _ hX => hX.elim) (fun rx pm1 r O => ?_)
  obtain ⟨rfl, ok1, hf1, ha1, O⟩ := O
  refine tt_nilr ?_
  refine tt_pools ?_
  have hm_2 := hm.fr hf1 hk.1 (by decide)
  obtain ⟨hM_3, w_4, rfl⟩ := O
  refine jj_istore C dL_law_763 (by decide) rfl ?_
  refine jj_goto (tgt := 1435) C dL_law_765 (by decide) ?_
  have hR9 : rw_R cA (n + 1) h1 x cz e1 e2 pm1 := ⟨K2, aw, aa, at1, ai, af, ap, b9, _, _, hk, hk9, ok1, hm_2, (hf1.at hk.1 (by decide) (by decide) h12), (hf1.at hk.1 (by decide) (by decide) h13), (ha1.at hk9 (by decide) (by decide) hum), hcm, (hf1.at hk.1 (by decide) (by decide) h17), (hf1.at hk.1 (by decide) (by decide) h18), he3, hM_3.mono (Int.le_refl _) (by omega), (by omega), (by omega)⟩
  exact jj_loc [2, 3, 4, 5, 6, 7] rfl (jj_widen (by omega) (by omega) (hb g1 gd x cz e1 e2 pm1 pl hx hC1 hR9))

set_option maxHeartbeats 4000000 in
set_option maxRecDepth 100000 in
theorem law_c20 {p : Program} {l : Launch} {e : Env} {s : State} {m : MethodId} {below : List Frame} {meth : Method} {c : Code} (hl : l.stackTraces = false) {D : va_G} {cA : Nat → ClassId} {ak : (Nat → Nat) × (Nat → Nat)} {A : Nat → Prop} {b L : Nat} {xs : Nat → Int32} {Q : State → Prop} (C : jj_C p l s m #[Value.ref b] meth c code 9 R_law ret D cA A ak) (hX : va_X b L xs s s.heap) (hbl : b < s.heap.size) (hbA : ¬ A b) (hL : L ≤ 3072) {n h0 h1 ho hd : Nat} (hn : 6 * n + 6 ≤ L) (hb : ∀ (g : Nat → Int64) (gd : Nat → UInt64) (x : Nat) (cz : Nat → Int) (e1 : Nat) (e2 : Int32) (pR pC : va_W), x ≤ 400 → rw_C cA h0 x cz e1 e2 pC → rw_R cA (n + 1) h1 x cz e1 e2 pR → jj_J p l e room_1 s m #[Value.ref b] below meth c 9 A Q (jj_X D A (((ho, .inl (cA 2, 1, .inr (.inl g))) :: (hd, .inl (cA 4, 1, .inr (.inr (.inr (.inl gd))))) :: pR) ++ pC)) (200 + 64 * (n + 1)) (20000 + 414 * (n + 1)) 1435 [(0, .ref b), (1, .ref h0), (2, .ref h1), (3, .ref ho), (4, .ref hd), (5, .int (nI (6 * n)))] []) (g : Nat → Int64) (gd : Nat → UInt64) (x : Nat) (cz : Nat → Int) (e1 : Nat) (e2 : Int32) (pR pC : va_W) (hx : x ≤ 400) (hC : rw_C cA h0 x cz e1 e2 pC) (hR : rw_R cA n h1 x cz e1 e2 pR) : jj_J p l e room_1 s m #[Value.ref b] below meth c 9 A Q (jj_X D A (((ho, .inl (cA 2, 1, .inr (.inl g))) :: (hd, .inl (cA 4, 1, .inr (.inr (.inr (.inl gd))))) :: pR) ++ pC)) (200 + 64 * n) (20000 + 414 * n) 768 [(0, .ref b), (1, .ref h0), (2, .ref h1), (3, .ref ho), (4, .ref hd), (5, .int (nI (6 * n)))] [] := by
  have hxi : (nI x).toInt = (x : Int) := rl_ti (by omega)
  obtain ⟨K, a0, a9, u, k1, k2, k9, ok, f1, f0, f2, hu, hcu, fe1, fe2⟩ := hC
  refine jj_aload_n C dL_law_768 rfl ?_
  refine jj_aload_n C dL_law_769 rfl ?_
  refine jj_iload C dL_law_770 rfl ?_
  refine jj_iconst (v := 1) C dL_law_772 (by decide) ?_
  refine jj_iadd (v := nI (6 * n + 1)) C dL_law_773 (rl_addR (kn := 1) (by decide) rfl) ?_
  refine jj_xld C hX hbl hbA (k := 6 * n + 1) (by omega) hL dL_law_774 ?_
  refine jj_aload_n C dL_law_775 rfl ?_
  refine jj_iload C dL_law_776 rfl ?_
  refine jj_iconst (v := 2) C dL_law_778 (by decide) ?_
  refine jj_iadd (v := nI (6 * n + 2)) C dL_law_779 (rl_addR (kn := 2) (by decide) rfl) ?_
  refine jj_xld C hX hbl hbA (k := 6 * n + 2) (by omega) hL dL_law_780 ?_
  refine jj_aload_n C dL_law_781 rfl ?_
  refine tt_callSW (rest := []) C (lm_seriesValue hl D cA ak h0 ho (xs (6 * n + 1)) (xs (6 * n + 2)) g k1 ok) [0] _ rfl (rz_pk1 _ _) (by decide) (rz_ndd _ _) rz_dis1 jw_3d1279481a jw_913488080a jw_2ec6af59de jw_17d8e864a4 jn_L_seriesValue rfl (jj_le rfl) (jj_le rfl) (by show (200 + 64 * n) + 2 ≤ 603072; omega) (by show (20000 + 414 * n) + 12 ≤ 7211114; omega) (jj_le rfl) dL_law_782 rfl (fun _ _ _ hX => hX.elim) (fun rx pl r O => ?_)
  obtain ⟨K1, hx1, ok1, fr1, fa1, g1, v1, rfl, rfl⟩ := O
  refine tt_rot ?_
  have hC1 : rw_C cA h0 x cz e1 e2 pl := ⟨K1, a0, a9, _, hx1.kd k1 (by decide), hx1.kd k2 (by decide), hx1.kd k9 (by decide), ok1, (fr1.at k1 (by decide) (by decide) f1), (fr1.at k2 (by decide) (by decide) f0), (fr1.at k2 (by decide) (by decide) f2), (fa1.at k9 (by decide) (by decide) hu), hcu, (fr1.at k1 (by decide) (by decide) fe1), (fr1.at k1 (by decide) (by decide) fe2)⟩
  refine jj_istore C dL_law_785 (by decide) rfl ?_
  refine jj_aload_n C dL_law_787 rfl ?_
  refine jj_aload_n C dL_law_788 rfl ?_
  refine jj_iload C dL_law_789 rfl ?_
  refine jj_iconst (v := 1) C dL_law_791 (by decide) ?_
  refine jj_iadd (v := nI (6 * n + 1)) C dL_law_792 (rl_addR (kn := 1) (by decide) rfl) ?_
  refine jj_xld C hX hbl hbA (k := 6 * n + 1) (by omega) hL dL_law_793 ?_
  refine jj_aload_n C dL_law_794 rfl ?_
  refine jj_iload C dL_law_795 rfl ?_
  refine jj_iconst (v := 2) C dL_law_797 (by decide) ?_
  refine jj_iadd (v := nI (6 * n + 2)) C dL_law_798 (rl_addR (kn := 2) (by decide) rfl) ?_
  refine jj_xld C hX hbl hbA (k := 6 * n + 2) (by omega) hL dL_law_799 ?_
  obtain ⟨K2, aw, aa, at1, ai, af, ap, b9, B, um, hk, hk9, ok2, hm, h12, h13, hum, hcm, h17, h18, he3, hM, hB0, hBF⟩ := hR
  obtain ⟨f, P, n6, hc, hcp, h6, un6, hKK, hHP⟩ := hM
  refine tt_pools ?_
  obtain ⟨qd, gt, hqd⟩ := tt_recv (cx := []) ok2 hk.1 (by decide) rfl
  refine tt_callV (rest := []) C (rs_seriesValue hl D cA ak n6 (xs (6 * n + 1)) (xs (6 * n + 2)) B (5000 * (n : Int)) f P hk.1 hk.2.1 hk.2.2.1 hk.2.2.2.1 hk.2.2.2.2.1 hk.2.2.2.2.2.1 hk.2.2.2.2.2.2 (by omega) (by omega) hKK hHP (by omega) (by omega) ⟨by omega, by omega⟩ ok2 hm hc hcp h6) [] _ rfl (rz_pkr _) (by decide) (rz_ndr _) rz_dis0 qd hqd rfl rfl jw_5a9d9496e0 jw_d12790a0ea jw_7c1076a12f jw_f96c99f44d jw_7101a3ef5e jn_X11_seriesValue rfl (jj_le rfl) (jj_le rfl) (by show (200 + 64 * n) + 2 + 0 ≤ 603072; omega) (by show (20000 + 414 * n) + 12 + 0 ≤ 7211114; omega) (jj_le rfl) dL_law_800 rfl (fun _ _ _ hX => hX.elim) (fun rx pm1 r O => ?_)
  obtain ⟨rfl, ok1, hf1, ha1, O⟩ := O
  refine tt_nilr ?_
  refine tt_pools ?_
  have hm_2 := hm.fr hf1 hk.1 (by decide)
  obtain ⟨hM_3, w_4, rfl⟩ := O
  refine jj_lstore C dL_law_803 (by decide) rfl ?_
  refine jj_goto (tgt := 1435) C dL_law_805 (by decide) ?_
  have hR9 : rw_R cA (n + 1) h1 x cz e1 e2 pm1 := ⟨K2, aw, aa, at1, ai, af, ap, b9, _, _, hk, hk9, ok1, hm_2, (hf1.at hk.1 (by decide) (by decide) h12), (hf1.at hk.1 (by decide) (by decide) h13), (ha1.at hk9 (by decide) (by decide) hum), hcm, (hf1.at hk.1 (by decide) (by decide) h17), (hf1.at hk.1 (by decide) (by decide) h18), he3, hM_3.mono (Int.le_refl _) (by omega), (by omega), (by omega)⟩
  exact jj_loc [2, 3, 4, 5, 6, 7] rfl (jj_widen (by omega) (by omega) (hb g1 gd x cz e1 e2 pm1 pl hx hC1 hR9))

set_option maxHeartbeats 4000000 in
set_option maxRecDepth 100000 in
theorem law_c21 {p : Program} {l : Launch} {e : Env} {s : State} {m : MethodId} {below : List Frame} {meth : Method} {c : Code} (hl : l.stackTraces = false) {D : va_G} {cA : Nat → ClassId} {ak : (Nat → Nat) × (Nat → Nat)} {A : Nat → Prop} {b L : Nat} {xs : Nat → Int32} {Q : State → Prop} (C : jj_C p l s m #[Value.ref b] meth c code 9 R_law ret D cA A ak) (hX : va_X b L xs s s.heap) (hbl : b < s.heap.size) (hbA : ¬ A b) (hL : L ≤ 3072) {n h0 h1 ho hd : Nat} (hn : 6 * n + 6 ≤ L) (hb : ∀ (g : Nat → Int64) (gd : Nat → UInt64) (x : Nat) (cz : Nat → Int) (e1 : Nat) (e2 : Int32) (pR pC : va_W), x ≤ 400 → rw_C cA h0 x cz e1 e2 pC → rw_R cA (n + 1) h1 x cz e1 e2 pR → jj_J p l e room_1 s m #[Value.ref b] below meth c 9 A Q (jj_X D A (((ho, .inl (cA 2, 1, .inr (.inl g))) :: (hd, .inl (cA 4, 1, .inr (.inr (.inr (.inl gd))))) :: pR) ++ pC)) (200 + 64 * (n + 1)) (20000 + 414 * (n + 1)) 1435 [(0, .ref b), (1, .ref h0), (2, .ref h1), (3, .ref ho), (4, .ref hd), (5, .int (nI (6 * n)))] []) (g : Nat → Int64) (gd : Nat → UInt64) (x : Nat) (cz : Nat → Int) (e1 : Nat) (e2 : Int32) (pR pC : va_W) (hx : x ≤ 400) (hC : rw_C cA h0 x cz e1 e2 pC) (hR : rw_R cA n h1 x cz e1 e2 pR) : jj_J p l e room_1 s m #[Value.ref b] below meth c 9 A Q (jj_X D A (((ho, .inl (cA 2, 1, .inr (.inl g))) :: (hd, .inl (cA 4, 1, .inr (.inr (.inr (.inl gd))))) :: pR) ++ pC)) (200 + 64 * n) (20000 + 414 * n) 808 [(0, .ref b), (1, .ref h0), (2, .ref h1), (3, .ref ho), (4, .ref hd), (5, .int (nI (6 * n)))] [] := by
  have hxi : (nI x).toInt = (x : Int) := rl_ti (by omega)
  obtain ⟨K, a0, a9, u, k1, k2, k9, ok, f1, f0, f2, hu, hcu, fe1, fe2⟩ := hC
  refine jj_aload_n C dL_law_808 rfl ?_
  refine jj_aload_n C dL_law_809 rfl ?_
  refine jj_iload C dL_law_810 rfl ?_
  refine jj_iconst (v := 1) C dL_law_812 (by decide) ?_
  refine jj_iadd (v := nI (6 * n + 1)) C dL_law_813 (rl_addR (kn := 1) (by decide) rfl) ?_
  refine jj_xld C hX hbl hbA (k := 6 * n + 1) (by omega) hL dL_law_814 ?_
  refine jj_aload_n C dL_law_815 rfl ?_
  refine jj_iload C dL_law_816 rfl ?_
  refine jj_iconst (v := 2) C dL_law_818 (by decide) ?_
  refine jj_iadd (v := nI (6 * n + 2)) C dL_law_819 (rl_addR (kn := 2) (by decide) rfl) ?_
  refine jj_xld C hX hbl hbA (k := 6 * n + 2) (by omega) hL dL_law_820 ?_
  refine jj_aload_n C dL_law_821 rfl ?_
  refine tt_callSW (rest := []) C (lm_lot hl D cA ak h0 ho (xs (6 * n + 1)) (xs (6 * n + 2)) g k1 ok) [0] _ rfl (rz_pk1 _ _) (by decide) (rz_ndd _ _) rz_dis1 jw_071dc3e98a jw_26add7bf06 jw_2ec6af59de jw_739cbf6537 jn_L_lot rfl (jj_le rfl) (jj_le rfl) (by show (200 + 64 * n) + 1 ≤ 603072; omega) (by show (20000 + 414 * n) + 6 ≤ 7211114; omega) (jj_le rfl) dL_law_822 rfl (fun _ _ _ hX => hX.elim) (fun rx pl r O => ?_)
  obtain ⟨K1, hx1, ok1, fr1, fa1, g1, v1, rfl, rfl⟩ := O
  refine tt_rot ?_
  have hC1 : rw_C cA h0 x cz e1 e2 pl := ⟨K1, a0, a9, _, hx1.kd k1 (by decide), hx1.kd k2 (by decide), hx1.kd k9 (by decide), ok1, (fr1.at k1 (by decide) (by decide) f1), (fr1.at k2 (by decide) (by decide) f0), (fr1.at k2 (by decide) (by decide) f2), (fa1.at k9 (by decide) (by decide) hu), hcu, (fr1.at k1 (by decide) (by decide) fe1), (fr1.at k1 (by decide) (by decide) fe2)⟩
  refine jj_istore C dL_law_825 (by decide) rfl ?_
  refine jj_aload_n C dL_law_827 rfl ?_
  refine jj_aload_n C dL_law_828 rfl ?_
  refine jj_iload C dL_law_829 rfl ?_
  refine jj_iconst (v := 1) C dL_law_831 (by decide) ?_
  refine jj_iadd (v := nI (6 * n + 1)) C dL_law_832 (rl_addR (kn := 1) (by decide) rfl) ?_
  refine jj_xld C hX hbl hbA (k := 6 * n + 1) (by omega) hL dL_law_833 ?_
  refine jj_aload_n C dL_law_834 rfl ?_
  refine jj_iload C dL_law_835 rfl ?_
  refine jj_iconst (v := 2) C dL_law_837 (by decide) ?_
  refine jj_iadd (v := nI (6 * n + 2)) C dL_law_838 (rl_addR (kn := 2) (by decide) rfl) ?_
  refine jj_xld C hX hbl hbA (k := 6 * n + 2) (by omega) hL dL_law_839 ?_
  obtain ⟨K2, aw, aa, at1, ai, af, ap, b9, B, um, hk, hk9, ok2, hm, h12, h13, hum, hcm, h17, h18, he3, hM, hB0, hBF⟩ := hR
  obtain ⟨f, P, n6, hc, hcp, h6, un6, hKK, hHP⟩ := hM
  refine tt_pools ?_
  obtain ⟨qd, gt, hqd⟩ := tt_recv (cx := []) ok2 hk.1 (by decide) rfl
  refine tt_callV (rest := []) C (rs_lot hl D cA ak n6 (xs (6 * n + 1)) (xs (6 * n + 2)) B (5000 * (n : Int)) f P hk.1 hk.2.1 hk.2.2.1 hk.2.2.2.1 hk.2.2.2.2.1 hk.2.2.2.2.2.1 hk.2.2.2.2.2.2 (by omega) (by omega) hKK hHP (by omega) (by omega) ⟨by omega, by omega⟩ ok2 hm hc hcp h6) [] _ rfl (rz_pkr _) (by decide) (rz_ndr _) rz_dis0 qd hqd rfl rfl jw_f7918e8a97 jw_e9f0d8d1c6 jw_d008ddc488 jw_f96c99f44d jw_e3c1929b38 jn_X11_lot rfl (jj_le rfl) (jj_le rfl) (by show (200 + 64 * n) + 1 + 0 ≤ 603072; omega) (by show (20000 + 414 * n) + 6 + 0 ≤ 7211114; omega) (jj_le rfl) dL_law_840 rfl (fun _ _ _ hX => hX.elim) (fun rx pm1 r O => ?_)
  obtain ⟨rfl, ok1, hf1, ha1, O⟩ := O
  refine tt_nilr ?_
  refine tt_pools ?_
  have hm_2 := hm.fr hf1 hk.1 (by decide)
  obtain ⟨hM_3, w_4, rfl⟩ := O
  refine jj_lstore C dL_law_843 (by decide) rfl ?_
  refine jj_goto (tgt := 1435) C dL_law_845 (by decide) ?_
  have hR9 : rw_R cA (n + 1) h1 x cz e1 e2 pm1 := ⟨K2, aw, aa, at1, ai, af, ap, b9, _, _, hk, hk9, ok1, hm_2, (hf1.at hk.1 (by decide) (by decide) h12), (hf1.at hk.1 (by decide) (by decide) h13), (ha1.at hk9 (by decide) (by decide) hum), hcm, (hf1.at hk.1 (by decide) (by decide) h17), (hf1.at hk.1 (by decide) (by decide) h18), he3, hM_3.mono (Int.le_refl _) (by omega), (by omega), (by omega)⟩
  exact jj_loc [2, 3, 4, 5, 6, 7] rfl (jj_widen (by omega) (by omega) (hb g1 gd x cz e1 e2 pm1 pl hx hC1 hR9))

set_option maxHeartbeats 4000000 in
set_option maxRecDepth 100000 in
theorem law_c22 {p : Program} {l : Launch} {e : Env} {s : State} {m : MethodId} {below : List Frame} {meth : Method} {c : Code} (hl : l.stackTraces = false) {D : va_G} {cA : Nat → ClassId} {ak : (Nat → Nat) × (Nat → Nat)} {A : Nat → Prop} {b L : Nat} {xs : Nat → Int32} {Q : State → Prop} (C : jj_C p l s m #[Value.ref b] meth c code 9 R_law ret D cA A ak) (hX : va_X b L xs s s.heap) (hbl : b < s.heap.size) (hbA : ¬ A b) (hL : L ≤ 3072) {n h0 h1 ho hd : Nat} (hn : 6 * n + 6 ≤ L) (hb : ∀ (g : Nat → Int64) (gd : Nat → UInt64) (x : Nat) (cz : Nat → Int) (e1 : Nat) (e2 : Int32) (pR pC : va_W), x ≤ 400 → rw_C cA h0 x cz e1 e2 pC → rw_R cA (n + 1) h1 x cz e1 e2 pR → jj_J p l e room_1 s m #[Value.ref b] below meth c 9 A Q (jj_X D A (((ho, .inl (cA 2, 1, .inr (.inl g))) :: (hd, .inl (cA 4, 1, .inr (.inr (.inr (.inl gd))))) :: pR) ++ pC)) (200 + 64 * (n + 1)) (20000 + 414 * (n + 1)) 1435 [(0, .ref b), (1, .ref h0), (2, .ref h1), (3, .ref ho), (4, .ref hd), (5, .int (nI (6 * n)))] []) (g : Nat → Int64) (gd : Nat → UInt64) (x : Nat) (cz : Nat → Int) (e1 : Nat) (e2 : Int32) (pR pC : va_W) (hx : x ≤ 400) (hC : rw_C cA h0 x cz e1 e2 pC) (hR : rw_R cA n h1 x cz e1 e2 pR) : jj_J p l e room_1 s m #[Value.ref b] below meth c 9 A Q (jj_X D A (((ho, .inl (cA 2, 1, .inr (.inl g))) :: (hd, .inl (cA 4, 1, .inr (.inr (.inr (.inl gd))))) :: pR) ++ pC)) (200 + 64 * n) (20000 + 414 * n) 848 [(0, .ref b), (1, .ref h0), (2, .ref h1), (3, .ref ho), (4, .ref hd), (5, .int (nI (6 * n)))] [] := by
  have hxi : (nI x).toInt = (x : Int) := rl_ti (by omega)
  obtain ⟨K, a0, a9, u, k1, k2, k9, ok, f1, f0, f2, hu, hcu, fe1, fe2⟩ := hC
  refine jj_aload_n C dL_law_848 rfl ?_
  refine jj_aload_n C dL_law_849 rfl ?_
  refine jj_iload C dL_law_850 rfl ?_
  refine jj_iconst (v := 1) C dL_law_852 (by decide) ?_
  refine jj_iadd (v := nI (6 * n + 1)) C dL_law_853 (rl_addR (kn := 1) (by decide) rfl) ?_
  refine jj_xld C hX hbl hbA (k := 6 * n + 1) (by omega) hL dL_law_854 ?_
  refine jj_aload_n C dL_law_855 rfl ?_
  refine jj_iload C dL_law_856 rfl ?_
  refine jj_iconst (v := 2) C dL_law_858 (by decide) ?_
  refine jj_iadd (v := nI (6 * n + 2)) C dL_law_859 (rl_addR (kn := 2) (by decide) rfl) ?_
  refine jj_xld C hX hbl hbA (k := 6 * n + 2) (by omega) hL dL_law_860 ?_
  refine jj_aload_n C dL_law_861 rfl ?_
  refine tt_callSW (rest := []) C (lm_request hl D cA ak h0 ho (xs (6 * n + 1)) (xs (6 * n + 2)) g k1 ok) [0] _ rfl (rz_pk1 _ _) (by decide) (rz_ndd _ _) rz_dis1 jw_1031eb085f jw_fb9a4a702d jw_2ec6af59de jw_eedf042953 jn_L_request rfl (jj_le rfl) (jj_le rfl) (by show (200 + 64 * n) + 2 ≤ 603072; omega) (by show (20000 + 414 * n) + 12 ≤ 7211114; omega) (jj_le rfl) dL_law_862 rfl (fun _ _ _ hX => hX.elim) (fun rx pl r O => ?_)
  obtain ⟨K1, hx1, ok1, fr1, fa1, g1, v1, rfl, rfl⟩ := O
  refine tt_rot ?_
  have hC1 : rw_C cA h0 x cz e1 e2 pl := ⟨K1, a0, a9, _, hx1.kd k1 (by decide), hx1.kd k2 (by decide), hx1.kd k9 (by decide), ok1, (fr1.at k1 (by decide) (by decide) f1), (fr1.at k2 (by decide) (by decide) f0), (fr1.at k2 (by decide) (by decide) f2), (fa1.at k9 (by decide) (by decide) hu), hcu, (fr1.at k1 (by decide) (by decide) fe1), (fr1.at k1 (by decide) (by decide) fe2)⟩
  refine jj_istore C dL_law_865 (by decide) rfl ?_
  refine jj_aload_n C dL_law_867 rfl ?_
  refine jj_aload_n C dL_law_868 rfl ?_
  refine jj_iload C dL_law_869 rfl ?_
  refine jj_iconst (v := 1) C dL_law_871 (by decide) ?_
  refine jj_iadd (v := nI (6 * n + 1)) C dL_law_872 (rl_addR (kn := 1) (by decide) rfl) ?_
  refine jj_xld C hX hbl hbA (k := 6 * n + 1) (by omega) hL dL_law_873 ?_
  refine jj_aload_n C dL_law_874 rfl ?_
  refine jj_iload C dL_law_875 rfl ?_
  refine jj_iconst (v := 2) C dL_law_877 (by decide) ?_
  refine jj_iadd (v := nI (6 * n + 2)) C dL_law_878 (rl_addR (kn := 2) (by decide) rfl) ?_
  refine jj_xld C hX hbl hbA (k := 6 * n + 2) (by omega) hL dL_law_879 ?_
  obtain ⟨K2, aw, aa, at1, ai, af, ap, b9, B, um, hk, hk9, ok2, hm, h12, h13, hum, hcm, h17, h18, he3, hM, hB0, hBF⟩ := hR
  obtain ⟨f, P, n6, hc, hcp, h6, un6, hKK, hHP⟩ := hM
  refine tt_pools ?_
  obtain ⟨qd, gt, hqd⟩ := tt_recv (cx := []) ok2 hk.1 (by decide) rfl
  refine tt_callV (rest := []) C (rs_request hl D cA ak n6 (xs (6 * n + 1)) (xs (6 * n + 2)) B (5000 * (n : Int)) f P hk.1 hk.2.1 hk.2.2.1 hk.2.2.2.1 hk.2.2.2.2.1 hk.2.2.2.2.2.1 hk.2.2.2.2.2.2 (by omega) (by omega) hKK hHP (by omega) (by omega) ⟨by omega, by omega⟩ ok2 hm hc hcp h6) [] _ rfl (rz_pkr _) (by decide) (rz_ndr _) rz_dis0 qd hqd rfl rfl jw_3d381e84a3 jw_60ac7aed83 jw_d64db4e3a6 jw_f96c99f44d jw_0cd805615d jn_X11_request rfl (jj_le rfl) (jj_le rfl) (by show (200 + 64 * n) + 2 + 0 ≤ 603072; omega) (by show (20000 + 414 * n) + 12 + 0 ≤ 7211114; omega) (jj_le rfl) dL_law_880 rfl (fun _ _ _ hX => hX.elim) (fun rx pm1 r O => ?_)
  obtain ⟨rfl, ok1, hf1, ha1, O⟩ := O
  refine tt_nilr ?_
  refine tt_pools ?_
  have hm_2 := hm.fr hf1 hk.1 (by decide)
  obtain ⟨hM_3, w_4, rfl⟩ := O
  refine jj_lstore C dL_law_883 (by decide) rfl ?_
  refine jj_goto (tgt := 1435) C dL_law_885 (by decide) ?_
  have hR9 : rw_R cA (n + 1) h1 x cz e1 e2 pm1 := ⟨K2, aw, aa, at1, ai, af, ap, b9, _, _, hk, hk9, ok1, hm_2, (hf1.at hk.1 (by decide) (by decide) h12), (hf1.at hk.1 (by decide) (by decide) h13), (ha1.at hk9 (by decide) (by decide) hum), hcm, (hf1.at hk.1 (by decide) (by decide) h17), (hf1.at hk.1 (by decide) (by decide) h18), he3, hM_3.mono (Int.le_refl _) (by omega), (by omega), (by omega)⟩
  exact jj_loc [2, 3, 4, 5, 6, 7] rfl (jj_widen (by omega) (by omega) (hb g1 gd x cz e1 e2 pm1 pl hx hC1 hR9))

set_option maxHeartbeats 4000000 in
set_option maxRecDepth 100000 in
theorem law_c23 {p : Program} {l : Launch} {e : Env} {s : State} {m : MethodId} {below : List Frame} {meth : Method} {c : Code} (hl : l.stackTraces = false) {D : va_G} {cA : Nat → ClassId} {ak : (Nat → Nat) × (Nat → Nat)} {A : Nat → Prop} {b L : Nat} {xs : Nat → Int32} {Q : State → Prop} (C : jj_C p l s m #[Value.ref b] meth c code 9 R_law ret D cA A ak) (hX : va_X b L xs s s.heap) (hbl : b < s.heap.size) (hbA : ¬ A b) (hL : L ≤ 3072) {n h0 h1 ho hd : Nat} (hn : 6 * n + 6 ≤ L) (hb : ∀ (g : Nat → Int64) (gd : Nat → UInt64) (x : Nat) (cz : Nat → Int) (e1 : Nat) (e2 : Int32) (pR pC : va_W), x ≤ 400 → rw_C cA h0 x cz e1 e2 pC → rw_R cA (n + 1) h1 x cz e1 e2 pR → jj_J p l e room_1 s m #[Value.ref b] below meth c 9 A Q (jj_X D A (((ho, .inl (cA 2, 1, .inr (.inl g))) :: (hd, .inl (cA 4, 1, .inr (.inr (.inr (.inl gd))))) :: pR) ++ pC)) (200 + 64 * (n + 1)) (20000 + 414 * (n + 1)) 1435 [(0, .ref b), (1, .ref h0), (2, .ref h1), (3, .ref ho), (4, .ref hd), (5, .int (nI (6 * n)))] []) (g : Nat → Int64) (gd : Nat → UInt64) (x : Nat) (cz : Nat → Int) (e1 : Nat) (e2 : Int32) (pR pC : va_W) (hx : x ≤ 400) (hC : rw_C cA h0 x cz e1 e2 pC) (hR : rw_R cA n h1 x cz e1 e2 pR) : jj_J p l e room_1 s m #[Value.ref b] below meth c 9 A Q (jj_X D A (((ho, .inl (cA 2, 1, .inr (.inl g))) :: (hd, .inl (cA 4, 1, .inr (.inr (.inr (.inl gd))))) :: pR) ++ pC)) (200 + 64 * n) (20000 + 414 * n) 888 [(0, .ref b), (1, .ref h0), (2, .ref h1), (3, .ref ho), (4, .ref hd), (5, .int (nI (6 * n)))] [] := by
  have hxi : (nI x).toInt = (x : Int) := rl_ti (by omega)
  obtain ⟨K, a0, a9, u, k1, k2, k9, ok, f1, f0, f2, hu, hcu, fe1, fe2⟩ := hC
  refine jj_aload_n C dL_law_888 rfl ?_
  refine jj_aload_n C dL_law_889 rfl ?_
  refine jj_iload C dL_law_890 rfl ?_
  refine jj_iconst (v := 1) C dL_law_892 (by decide) ?_
  refine jj_iadd (v := nI (6 * n + 1)) C dL_law_893 (rl_addR (kn := 1) (by decide) rfl) ?_
  refine jj_xld C hX hbl hbA (k := 6 * n + 1) (by omega) hL dL_law_894 ?_
  refine jj_aload_n C dL_law_895 rfl ?_
  refine tt_callSW (rest := []) C (lm_unitsOf hl D cA ak h0 ho (xs (6 * n + 1)) g k1 ok) [0] _ rfl (rz_pk1 _ _) (by decide) (rz_ndd _ _) rz_dis1 jw_061e93759a jw_7377bd8582 jw_2ec6af59de jw_b7113859cd jn_L_unitsOf rfl (jj_le rfl) (jj_le rfl) (by show (200 + 64 * n) + 1 ≤ 603072; omega) (by show (20000 + 414 * n) + 6 ≤ 7211114; omega) (jj_le rfl) dL_law_896 rfl (fun _ _ _ hX => hX.elim) (fun rx pl r O => ?_)
  obtain ⟨K1, hx1, ok1, fr1, fa1, g1, v1, rfl, rfl⟩ := O
  refine tt_rot ?_
  have hC1 : rw_C cA h0 x cz e1 e2 pl := ⟨K1, a0, a9, _, hx1.kd k1 (by decide), hx1.kd k2 (by decide), hx1.kd k9 (by decide), ok1, (fr1.at k1 (by decide) (by decide) f1), (fr1.at k2 (by decide) (by decide) f0), (fr1.at k2 (by decide) (by decide) f2), (fa1.at k9 (by decide) (by decide) hu), hcu, (fr1.at k1 (by decide) (by decide) fe1), (fr1.at k1 (by decide) (by decide) fe2)⟩
  refine jj_istore C dL_law_899 (by decide) rfl ?_
  refine jj_aload_n C dL_law_901 rfl ?_
  refine jj_aload_n C dL_law_902 rfl ?_
  refine jj_iload C dL_law_903 rfl ?_
  refine jj_iconst (v := 1) C dL_law_905 (by decide) ?_
  refine jj_iadd (v := nI (6 * n + 1)) C dL_law_906 (rl_addR (kn := 1) (by decide) rfl) ?_
  refine jj_xld C hX hbl hbA (k := 6 * n + 1) (by omega) hL dL_law_907 ?_
  obtain ⟨K2, aw, aa, at1, ai, af, ap, b9, B, um, hk, hk9, ok2, hm, h12, h13, hum, hcm, h17, h18, he3, hM, hB0, hBF⟩ := hR
  obtain ⟨f, P, n6, hc, hcp, h6, un6, hKK, hHP⟩ := hM
  refine tt_pools ?_
  obtain ⟨qd, gt, hqd⟩ := tt_recv (cx := []) ok2 hk.1 (by decide) rfl
  refine tt_callV (rest := []) C (rs_unitsOf hl D cA ak n6 (xs (6 * n + 1)) B (5000 * (n : Int)) f P hk.1 hk.2.1 hk.2.2.1 hk.2.2.2.1 hk.2.2.2.2.1 hk.2.2.2.2.2.1 hk.2.2.2.2.2.2 (by omega) (by omega) hKK hHP (by omega) (by omega) ⟨by omega, by omega⟩ ok2 hm hc hcp h6) [] _ rfl (rz_pkr _) (by decide) (rz_ndr _) rz_dis0 qd hqd rfl rfl jw_c4e4375189 jw_ed2085a7a3 jw_856b5aab26 jw_f96c99f44d jw_5d965a8869 jn_X11_unitsOf rfl (jj_le rfl) (jj_le rfl) (by show (200 + 64 * n) + 1 + 0 ≤ 603072; omega) (by show (20000 + 414 * n) + 6 + 0 ≤ 7211114; omega) (jj_le rfl) dL_law_908 rfl (fun _ _ _ hX => hX.elim) (fun rx pm1 r O => ?_)
  obtain ⟨rfl, ok1, hf1, ha1, O⟩ := O
  refine tt_nilr ?_
  refine tt_pools ?_
  have hm_2 := hm.fr hf1 hk.1 (by decide)
  obtain ⟨hM_3, w_4, rfl⟩ := O
  refine jj_lstore C dL_law_911 (by decide) rfl ?_
  refine jj_goto (tgt := 1435) C dL_law_913 (by decide) ?_
  have hR9 : rw_R cA (n + 1) h1 x cz e1 e2 pm1 := ⟨K2, aw, aa, at1, ai, af, ap, b9, _, _, hk, hk9, ok1, hm_2, (hf1.at hk.1 (by decide) (by decide) h12), (hf1.at hk.1 (by decide) (by decide) h13), (ha1.at hk9 (by decide) (by decide) hum), hcm, (hf1.at hk.1 (by decide) (by decide) h17), (hf1.at hk.1 (by decide) (by decide) h18), he3, hM_3.mono (Int.le_refl _) (by omega), (by omega), (by omega)⟩
  exact jj_loc [2, 3, 4, 5, 6, 7] rfl (jj_widen (by omega) (by omega) (hb g1 gd x cz e1 e2 pm1 pl hx hC1 hR9))

