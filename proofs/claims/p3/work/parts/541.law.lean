set_option maxHeartbeats 4000000 in
set_option maxRecDepth 100000 in
theorem law_c10 {p : Program} {l : Launch} {e : Env} {s : State} {m : MethodId} {below : List Frame} {meth : Method} {c : Code} (hl : l.stackTraces = false) {D : va_G} {cA : Nat → ClassId} {ak : (Nat → Nat) × (Nat → Nat)} {A : Nat → Prop} {b L : Nat} {xs : Nat → Int32} {Q : State → Prop} (C : jj_C p l s m #[Value.ref b] meth c code 9 R_law ret D cA A ak) (hX : va_X b L xs s s.heap) (hbl : b < s.heap.size) (hbA : ¬ A b) (hL : L ≤ 3072) {n h0 h1 ho hd : Nat} (hn : 6 * n + 6 ≤ L) (hb : ∀ (g : Nat → Int64) (gd : Nat → UInt64) (x : Nat) (pR pC : va_W), x ≤ 400 → rw_C cA h0 x pC → rw_R cA (n + 1) h1 x pR → jj_J p l e room_1 s m #[Value.ref b] below meth c 9 A Q (jj_X D A (((ho, .inl (cA 2, 1, .inr (.inl g))) :: (hd, .inl (cA 4, 1, .inr (.inr (.inr (.inl gd))))) :: pR) ++ pC)) (200 + 64 * (n + 1)) (20000 + 414 * (n + 1)) 1463 [(0, .ref b), (1, .ref h0), (2, .ref h1), (3, .ref ho), (4, .ref hd), (5, .int (nI (6 * n)))] []) (g : Nat → Int64) (gd : Nat → UInt64) (x : Nat) (pR pC : va_W) (hx : x ≤ 400) (hC : rw_C cA h0 x pC) (hR : rw_R cA n h1 x pR) : jj_J p l e room_1 s m #[Value.ref b] below meth c 9 A Q (jj_X D A (((ho, .inl (cA 2, 1, .inr (.inl g))) :: (hd, .inl (cA 4, 1, .inr (.inr (.inr (.inl gd))))) :: pR) ++ pC)) (200 + 64 * n) (20000 + 414 * n) 552 [(0, .ref b), (1, .ref h0), (2, .ref h1), (3, .ref ho), (4, .ref hd), (5, .int (nI (6 * n)))] [] := by
  have hxi : (nI x).toInt = (x : Int) := rl_ti (by omega)
  obtain ⟨K, a0, k1, k2, ok, f1, f2⟩ := hC
  refine jj_aload_n C dL_law_552 rfl ?_
  refine jj_aload_n C dL_law_553 rfl ?_
  refine jj_iload C dL_law_554 rfl ?_
  refine jj_iconst (v := 1) C dL_law_556 (by decide) ?_
  refine jj_iadd (v := nI (6 * n + 1)) C dL_law_557 (rl_addR (kn := 1) (by decide) rfl) ?_
  refine jj_xld C hX hbl hbA (k := 6 * n + 1) (by omega) hL dL_law_558 ?_
  refine jj_aload_n C dL_law_559 rfl ?_
  refine tt_callSW (rest := []) C (lm_passDays hl D cA ak h0 ho (xs (6 * n + 1)) g k1 ok) [0] _ rfl (rz_pk1 _ _) (by decide) (rz_ndd _ _) rz_dis1 jw_3be7ca3387 jw_3cbb758e23 jw_2ec6af59de jw_9f20fb149b jn_L_passDays rfl (jj_le rfl) (jj_le rfl) (by show (200 + 64 * n) + 63 ≤ 603072; omega) (by show (20000 + 414 * n) + 408 ≤ 7211114; omega) (jj_le rfl) dL_law_560 rfl (fun _ _ _ hX => hX.elim) (fun rx pl r O => ?_)
  obtain ⟨K1, hx1, ok1, fr1, g1, v1, rfl, rfl⟩ := O
  refine tt_rot ?_
  have hC1 : rw_C cA h0 x pl := rw_C.go k1 k2 f1 f2 hx1 ok1 fr1 (by decide) (by decide)
  refine jj_istore C dL_law_563 (by decide) rfl ?_
  refine jj_aload_n C dL_law_565 rfl ?_
  refine jj_aload_n C dL_law_566 rfl ?_
  refine jj_iload C dL_law_567 rfl ?_
  refine jj_iconst (v := 1) C dL_law_569 (by decide) ?_
  refine jj_iadd (v := nI (6 * n + 1)) C dL_law_570 (rl_addR (kn := 1) (by decide) rfl) ?_
  refine jj_xld C hX hbl hbA (k := 6 * n + 1) (by omega) hL dL_law_571 ?_
  obtain ⟨K2, aw, aa, at1, ai, af, ap, B, hk, ok2, hm, h13, hM, hB0, hBF⟩ := hR
  obtain ⟨f, P, n6, hc, hcp, h6, un6, hKK, hHP⟩ := hM
  refine tt_pools ?_
  obtain ⟨qd, gt, hqd⟩ := tt_recv (cx := []) ok2 hk.1 (by decide) rfl
  refine tt_callV (rest := []) C (rs_passDays hl D cA ak n6 (xs (6 * n + 1)) B (5000 * (n : Int)) f P hk.1 hk.2.1 hk.2.2.1 hk.2.2.2.1 hk.2.2.2.2.1 hk.2.2.2.2.2.1 hk.2.2.2.2.2.2 (by omega) (by omega) hKK hHP (by omega) (by omega) ⟨by omega, by omega⟩ ok2 hm hc hcp h6) [] _ rfl (rz_pkr _) (by decide) (rz_ndr _) rz_dis0 qd hqd rfl rfl jw_cb9132e59c jw_e33582801a jw_1d8f1b0c28 jw_f96c99f44d jw_0cf9781f39 jn_X11_passDays rfl (jj_le rfl) (jj_le rfl) (by show (200 + 64 * n) + 63 + 0 ≤ 603072; omega) (by show (20000 + 414 * n) + 408 + 0 ≤ 7211114; omega) (jj_le rfl) dL_law_572 rfl (fun _ _ _ hX => hX.elim) (fun rx pm1 r O => ?_)
  obtain ⟨rfl, ok1, hf1, ha1, O⟩ := O
  refine tt_nilr ?_
  refine tt_pools ?_
  have hm_2 := hm.fr hf1 hk.1 (by decide)
  obtain ⟨hM_3, w_4, rfl⟩ := O
  have t_5 := hf1.at hk.1 (by decide) (by decide) h13
  refine jj_lstore C dL_law_575 (by decide) rfl ?_
  refine jj_goto (tgt := 1463) C dL_law_577 (by decide) ?_
  have hR9 : rw_R cA (n + 1) h1 x pm1 := ⟨K2, aw, aa, at1, ai, af, ap, _, hk, ok1, hm_2, t_5, hM_3.mono (Int.le_refl _) (by omega), (by omega), (by omega)⟩
  exact jj_loc [2, 3, 4, 5, 6, 7] rfl (jj_widen (by omega) (by omega) (hb g1 gd x pm1 pl hx hC1 hR9))

set_option maxHeartbeats 4000000 in
set_option maxRecDepth 100000 in
theorem law_c11 {p : Program} {l : Launch} {e : Env} {s : State} {m : MethodId} {below : List Frame} {meth : Method} {c : Code} (hl : l.stackTraces = false) {D : va_G} {cA : Nat → ClassId} {ak : (Nat → Nat) × (Nat → Nat)} {A : Nat → Prop} {b L : Nat} {xs : Nat → Int32} {Q : State → Prop} (C : jj_C p l s m #[Value.ref b] meth c code 9 R_law ret D cA A ak) (hX : va_X b L xs s s.heap) (hbl : b < s.heap.size) (hbA : ¬ A b) (hL : L ≤ 3072) {n h0 h1 ho hd : Nat} (hn : 6 * n + 6 ≤ L) (hb : ∀ (g : Nat → Int64) (gd : Nat → UInt64) (x : Nat) (pR pC : va_W), x ≤ 400 → rw_C cA h0 x pC → rw_R cA (n + 1) h1 x pR → jj_J p l e room_1 s m #[Value.ref b] below meth c 9 A Q (jj_X D A (((ho, .inl (cA 2, 1, .inr (.inl g))) :: (hd, .inl (cA 4, 1, .inr (.inr (.inr (.inl gd))))) :: pR) ++ pC)) (200 + 64 * (n + 1)) (20000 + 414 * (n + 1)) 1463 [(0, .ref b), (1, .ref h0), (2, .ref h1), (3, .ref ho), (4, .ref hd), (5, .int (nI (6 * n)))] []) (g : Nat → Int64) (gd : Nat → UInt64) (x : Nat) (pR pC : va_W) (hx : x ≤ 400) (hC : rw_C cA h0 x pC) (hR : rw_R cA n h1 x pR) : jj_J p l e room_1 s m #[Value.ref b] below meth c 9 A Q (jj_X D A (((ho, .inl (cA 2, 1, .inr (.inl g))) :: (hd, .inl (cA 4, 1, .inr (.inr (.inr (.inl gd))))) :: pR) ++ pC)) (200 + 64 * n) (20000 + 414 * n) 580 [(0, .ref b), (1, .ref h0), (2, .ref h1), (3, .ref ho), (4, .ref hd), (5, .int (nI (6 * n)))] [] := by
  have hxi : (nI x).toInt = (x : Int) := rl_ti (by omega)
  obtain ⟨K, a0, k1, k2, ok, f1, f2⟩ := hC
  refine jj_aload_n C dL_law_580 rfl ?_
  obtain ⟨qc, gs, hqc⟩ := tt_recv (cx := []) ok k1 (by decide) rfl
  refine tt_callV (rest := []) C (tc_X10_crystallize_1 hl D cA ak h0 k1 ok) [] _ rfl (rz_pkr _) (by decide) (rz_ndr _) rz_dis0 qc hqc rfl rfl jw_249976cba8 jw_32ee2e130f jw_ab3fee97b3 jw_6f6d707074 jw_ac965d7551 jn_X10_crystallize rfl (jj_le rfl) (jj_le rfl) (by show (200 + 64 * n) + 63 ≤ 603072; omega) (by show (20000 + 414 * n) + 408 ≤ 7211114; omega) (jj_le rfl) dL_law_581 rfl (fun _ _ _ hX => hX.elim) (fun rx pl r O => ?_)
  obtain ⟨K1, hx1, rfl, ok1, fr1, ⟨v1, rfl⟩⟩ := O
  refine tt_nilr ?_
  have hC1 : rw_C cA h0 x pl := rw_C.go k1 k2 f1 f2 hx1 ok1 fr1 (by decide) (by decide)
  refine jj_pop2 C dL_law_584 rfl ?_
  refine jj_aload_n C dL_law_585 rfl ?_
  obtain ⟨K2, aw, aa, at1, ai, af, ap, B, hk, ok2, hm, h13, hM, hB0, hBF⟩ := hR
  obtain ⟨f, P, n6, hc, hcp, h6, un6, hKK, hHP⟩ := hM
  refine tt_pools ?_
  obtain ⟨qd, gt, hqd⟩ := tt_recv (cx := []) ok2 hk.1 (by decide) rfl
  refine tt_callV (rest := []) C (rs_crystallize hl D cA ak n6 B (5000 * (n : Int)) f P hk.1 hk.2.1 hk.2.2.1 hk.2.2.2.1 hk.2.2.2.2.1 hk.2.2.2.2.2.1 hk.2.2.2.2.2.2 (by omega) (by omega) hKK hHP (by omega) (by omega) ⟨by omega, by omega⟩ ok2 hm hc hcp h6) [] _ rfl (rz_pkr _) (by decide) (rz_ndr _) rz_dis0 qd hqd rfl rfl jw_b3a7171bf9 jw_b2362f64da jw_3e7250d051 jw_f96c99f44d jw_96fcf17aeb jn_X11_crystallize rfl (jj_le rfl) (jj_le rfl) (by show (200 + 64 * n) + 63 + 0 ≤ 603072; omega) (by show (20000 + 414 * n) + 408 + 0 ≤ 7211114; omega) (jj_le rfl) dL_law_586 rfl (fun _ _ _ hX => hX.elim) (fun rx pm1 r O => ?_)
  obtain ⟨rfl, ok1, hf1, ha1, O⟩ := O
  refine tt_nilr ?_
  refine tt_pools ?_
  have hm_2 := hm.fr hf1 hk.1 (by decide)
  obtain ⟨hM_3, w_4, rfl⟩ := O
  have t_5 := hf1.at hk.1 (by decide) (by decide) h13
  refine jj_pop2 C dL_law_589 rfl ?_
  refine jj_goto (tgt := 1463) C dL_law_590 (by decide) ?_
  have hR9 : rw_R cA (n + 1) h1 x pm1 := ⟨K2, aw, aa, at1, ai, af, ap, _, hk, ok1, hm_2, t_5, hM_3.mono (Int.le_refl _) (by omega), (by omega), (by omega)⟩
  exact jj_loc [0, 1, 2, 3, 4, 5] rfl (jj_widen (by omega) (by omega) (hb g gd x pm1 pl hx hC1 hR9))

set_option maxHeartbeats 4000000 in
set_option maxRecDepth 100000 in
theorem law_c12 {p : Program} {l : Launch} {e : Env} {s : State} {m : MethodId} {below : List Frame} {meth : Method} {c : Code} (hl : l.stackTraces = false) {D : va_G} {cA : Nat → ClassId} {ak : (Nat → Nat) × (Nat → Nat)} {A : Nat → Prop} {b L : Nat} {xs : Nat → Int32} {Q : State → Prop} (C : jj_C p l s m #[Value.ref b] meth c code 9 R_law ret D cA A ak) (hX : va_X b L xs s s.heap) (hbl : b < s.heap.size) (hbA : ¬ A b) (hL : L ≤ 3072) {n h0 h1 ho hd : Nat} (hn : 6 * n + 6 ≤ L) (hb : ∀ (g : Nat → Int64) (gd : Nat → UInt64) (x : Nat) (pR pC : va_W), x ≤ 400 → rw_C cA h0 x pC → rw_R cA (n + 1) h1 x pR → jj_J p l e room_1 s m #[Value.ref b] below meth c 9 A Q (jj_X D A (((ho, .inl (cA 2, 1, .inr (.inl g))) :: (hd, .inl (cA 4, 1, .inr (.inr (.inr (.inl gd))))) :: pR) ++ pC)) (200 + 64 * (n + 1)) (20000 + 414 * (n + 1)) 1463 [(0, .ref b), (1, .ref h0), (2, .ref h1), (3, .ref ho), (4, .ref hd), (5, .int (nI (6 * n)))] []) (g : Nat → Int64) (gd : Nat → UInt64) (x : Nat) (pR pC : va_W) (hx : x ≤ 400) (hC : rw_C cA h0 x pC) (hR : rw_R cA n h1 x pR) : jj_J p l e room_1 s m #[Value.ref b] below meth c 9 A Q (jj_X D A (((ho, .inl (cA 2, 1, .inr (.inl g))) :: (hd, .inl (cA 4, 1, .inr (.inr (.inr (.inl gd))))) :: pR) ++ pC)) (200 + 64 * n) (20000 + 414 * n) 593 [(0, .ref b), (1, .ref h0), (2, .ref h1), (3, .ref ho), (4, .ref hd), (5, .int (nI (6 * n)))] [] := by
  have hxi : (nI x).toInt = (x : Int) := rl_ti (by omega)
  obtain ⟨K, a0, k1, k2, ok, f1, f2⟩ := hC
  refine jj_aload_n C dL_law_593 rfl ?_
  obtain ⟨qc, gs, hqc⟩ := tt_recv (cx := []) ok k1 (by decide) rfl
  refine tt_callV (rest := []) C (tc_X10_merge_1 hl D cA ak h0 k1 ok) [] _ rfl (rz_pkr _) (by decide) (rz_ndr _) rz_dis0 qc hqc rfl rfl jw_196540e853 jw_227b1410f0 jw_762fddb565 jw_6f6d707074 jw_ecf0a5f18f jn_X10_merge rfl (jj_le rfl) (jj_le rfl) (by show (200 + 64 * n) + 63 ≤ 603072; omega) (by show (20000 + 414 * n) + 408 ≤ 7211114; omega) (jj_le rfl) dL_law_594 rfl (fun _ _ _ hX => hX.elim) (fun rx pl r O => ?_)
  obtain ⟨K1, hx1, rfl, ok1, fr1, rfl | ⟨v1, -, -, rfl⟩⟩ := O
  · refine tt_nilr ?_
    have hC1 : rw_C cA h0 x pl := rw_C.go k1 k2 f1 f2 hx1 ok1 fr1 (by decide) (by decide)
    refine jj_pop C dL_law_597 rfl ?_
    refine jj_aload_n C dL_law_598 rfl ?_
    obtain ⟨K2, aw, aa, at1, ai, af, ap, B, hk, ok2, hm, h13, hM, hB0, hBF⟩ := hR
    obtain ⟨f, P, n6, hc, hcp, h6, un6, hKK, hHP⟩ := hM
    refine tt_pools ?_
    obtain ⟨qd, gt, hqd⟩ := tt_recv (cx := []) ok2 hk.1 (by decide) rfl
    refine tt_callV (rest := []) C (rs_merge hl D cA ak n6 B (5000 * (n : Int)) f P hk.1 hk.2.1 hk.2.2.1 hk.2.2.2.1 hk.2.2.2.2.1 hk.2.2.2.2.2.1 hk.2.2.2.2.2.2 (by omega) (by omega) hKK hHP (by omega) (by omega) ⟨by omega, by omega⟩ ok2 hm hc hcp h6) [] _ rfl (rz_pkr _) (by decide) (rz_ndr _) rz_dis0 qd hqd rfl rfl jw_adc4f033ec jw_b622d7ddfe jw_c146e1b4dd jw_f96c99f44d jw_7222545b3c jn_X11_merge rfl (jj_le rfl) (jj_le rfl) (by show (200 + 64 * n) + 63 + 0 ≤ 603072; omega) (by show (20000 + 414 * n) + 408 + 0 ≤ 7211114; omega) (jj_le rfl) dL_law_599 rfl (fun _ _ _ hX => hX.elim) (fun rx pm1 r O => ?_)
    obtain ⟨rfl, ok1, hf1, ha1, O⟩ := O
    refine tt_nilr ?_
    refine tt_pools ?_
    have hm_2 := hm.fr hf1 hk.1 (by decide)
    obtain ⟨hM_3, w_4, rfl⟩ := O
    have t_5 := hf1.at hk.1 (by decide) (by decide) h13
    refine jj_pop C dL_law_602 rfl ?_
    refine jj_goto (tgt := 1463) C dL_law_603 (by decide) ?_
    have hR9 : rw_R cA (n + 1) h1 x pm1 := ⟨K2, aw, aa, at1, ai, af, ap, _, hk, ok1, hm_2, t_5, hM_3.mono (Int.le_refl _) (by omega), (by omega), (by omega)⟩
    exact jj_loc [0, 1, 2, 3, 4, 5] rfl (jj_widen (by omega) (by omega) (hb g gd x pm1 pl hx hC1 hR9))
  · refine tt_nilr ?_
    have hC1 : rw_C cA h0 x pl := rw_C.go k1 k2 f1 f2 hx1 ok1 fr1 (by decide) (by decide)
    refine jj_pop C dL_law_597 rfl ?_
    refine jj_aload_n C dL_law_598 rfl ?_
    obtain ⟨K2, aw, aa, at1, ai, af, ap, B, hk, ok2, hm, h13, hM, hB0, hBF⟩ := hR
    obtain ⟨f, P, n6, hc, hcp, h6, un6, hKK, hHP⟩ := hM
    refine tt_pools ?_
    obtain ⟨qd, gt, hqd⟩ := tt_recv (cx := []) ok2 hk.1 (by decide) rfl
    refine tt_callV (rest := []) C (rs_merge hl D cA ak n6 B (5000 * (n : Int)) f P hk.1 hk.2.1 hk.2.2.1 hk.2.2.2.1 hk.2.2.2.2.1 hk.2.2.2.2.2.1 hk.2.2.2.2.2.2 (by omega) (by omega) hKK hHP (by omega) (by omega) ⟨by omega, by omega⟩ ok2 hm hc hcp h6) [] _ rfl (rz_pkr _) (by decide) (rz_ndr _) rz_dis0 qd hqd rfl rfl jw_adc4f033ec jw_b622d7ddfe jw_c146e1b4dd jw_f96c99f44d jw_7222545b3c jn_X11_merge rfl (jj_le rfl) (jj_le rfl) (by show (200 + 64 * n) + 63 + 0 ≤ 603072; omega) (by show (20000 + 414 * n) + 408 + 0 ≤ 7211114; omega) (jj_le rfl) dL_law_599 rfl (fun _ _ _ hX => hX.elim) (fun rx pm6 r O => ?_)
    obtain ⟨rfl, ok6, hf6, ha6, O⟩ := O
    refine tt_nilr ?_
    refine tt_pools ?_
    have hm_7 := hm.fr hf6 hk.1 (by decide)
    obtain ⟨hM_8, w_9, rfl⟩ := O
    have t_10 := hf6.at hk.1 (by decide) (by decide) h13
    refine jj_pop C dL_law_602 rfl ?_
    refine jj_goto (tgt := 1463) C dL_law_603 (by decide) ?_
    have hR9 : rw_R cA (n + 1) h1 x pm6 := ⟨K2, aw, aa, at1, ai, af, ap, _, hk, ok6, hm_7, t_10, hM_8.mono (Int.le_refl _) (by omega), (by omega), (by omega)⟩
    exact jj_loc [0, 1, 2, 3, 4, 5] rfl (jj_widen (by omega) (by omega) (hb g gd x pm6 pl hx hC1 hR9))

set_option maxHeartbeats 4000000 in
set_option maxRecDepth 100000 in
theorem law_c13 {p : Program} {l : Launch} {e : Env} {s : State} {m : MethodId} {below : List Frame} {meth : Method} {c : Code} (hl : l.stackTraces = false) {D : va_G} {cA : Nat → ClassId} {ak : (Nat → Nat) × (Nat → Nat)} {A : Nat → Prop} {b L : Nat} {xs : Nat → Int32} {Q : State → Prop} (C : jj_C p l s m #[Value.ref b] meth c code 9 R_law ret D cA A ak) (hX : va_X b L xs s s.heap) (hbl : b < s.heap.size) (hbA : ¬ A b) (hL : L ≤ 3072) {n h0 h1 ho hd : Nat} (hn : 6 * n + 6 ≤ L) (hb : ∀ (g : Nat → Int64) (gd : Nat → UInt64) (x : Nat) (pR pC : va_W), x ≤ 400 → rw_C cA h0 x pC → rw_R cA (n + 1) h1 x pR → jj_J p l e room_1 s m #[Value.ref b] below meth c 9 A Q (jj_X D A (((ho, .inl (cA 2, 1, .inr (.inl g))) :: (hd, .inl (cA 4, 1, .inr (.inr (.inr (.inl gd))))) :: pR) ++ pC)) (200 + 64 * (n + 1)) (20000 + 414 * (n + 1)) 1463 [(0, .ref b), (1, .ref h0), (2, .ref h1), (3, .ref ho), (4, .ref hd), (5, .int (nI (6 * n)))] []) (g : Nat → Int64) (gd : Nat → UInt64) (x : Nat) (pR pC : va_W) (hx : x ≤ 400) (hC : rw_C cA h0 x pC) (hR : rw_R cA n h1 x pR) : jj_J p l e room_1 s m #[Value.ref b] below meth c 9 A Q (jj_X D A (((ho, .inl (cA 2, 1, .inr (.inl g))) :: (hd, .inl (cA 4, 1, .inr (.inr (.inr (.inl gd))))) :: pR) ++ pC)) (200 + 64 * n) (20000 + 414 * n) 606 [(0, .ref b), (1, .ref h0), (2, .ref h1), (3, .ref ho), (4, .ref hd), (5, .int (nI (6 * n)))] [] := by
  have hxi : (nI x).toInt = (x : Int) := rl_ti (by omega)
  obtain ⟨K, a0, k1, k2, ok, f1, f2⟩ := hC
  refine jj_aload_n C dL_law_606 rfl ?_
  refine jj_aload_n C dL_law_607 rfl ?_
  refine jj_iload C dL_law_608 rfl ?_
  refine jj_iconst (v := 1) C dL_law_610 (by decide) ?_
  refine jj_iadd (v := nI (6 * n + 1)) C dL_law_611 (rl_addR (kn := 1) (by decide) rfl) ?_
  refine jj_xld C hX hbl hbA (k := 6 * n + 1) (by omega) hL dL_law_612 ?_
  refine jj_aload_n C dL_law_613 rfl ?_
  refine jj_iload C dL_law_614 rfl ?_
  refine jj_iconst (v := 2) C dL_law_616 (by decide) ?_
  refine jj_iadd (v := nI (6 * n + 2)) C dL_law_617 (rl_addR (kn := 2) (by decide) rfl) ?_
  refine jj_xld C hX hbl hbA (k := 6 * n + 2) (by omega) hL dL_law_618 ?_
  refine jj_aload_n C dL_law_619 rfl ?_
  refine jj_iload C dL_law_620 rfl ?_
  refine jj_iconst (v := 3) C dL_law_622 (by decide) ?_
  refine jj_iadd (v := nI (6 * n + 3)) C dL_law_623 (rl_addR (kn := 3) (by decide) rfl) ?_
  refine jj_xld C hX hbl hbA (k := 6 * n + 3) (by omega) hL dL_law_624 ?_
  refine jj_aload_n C dL_law_625 rfl ?_
  refine tt_callSW (rest := []) C (lm_transfer hl D cA ak h0 ho (xs (6 * n + 1)) (xs (6 * n + 2)) (xs (6 * n + 3)) g k1 ok) [0] _ rfl (rz_pk1 _ _) (by decide) (rz_ndd _ _) rz_dis1 jw_b6711d2e87 jw_34c0505c7f jw_2ec6af59de jw_22302afebd jn_L_transfer rfl (jj_le rfl) (jj_le rfl) (by show (200 + 64 * n) + 63 ≤ 603072; omega) (by show (20000 + 414 * n) + 408 ≤ 7211114; omega) (jj_le rfl) dL_law_626 rfl (fun _ _ _ hX => hX.elim) (fun rx pl r O => ?_)
  obtain ⟨K1, hx1, ok1, fr1, g1, v1, rfl, rfl⟩ := O
  refine tt_rot ?_
  have hC1 : rw_C cA h0 x pl := rw_C.go k1 k2 f1 f2 hx1 ok1 fr1 (by decide) (by decide)
  refine jj_istore C dL_law_629 (by decide) rfl ?_
  refine jj_aload_n C dL_law_631 rfl ?_
  refine jj_aload_n C dL_law_632 rfl ?_
  refine jj_iload C dL_law_633 rfl ?_
  refine jj_iconst (v := 1) C dL_law_635 (by decide) ?_
  refine jj_iadd (v := nI (6 * n + 1)) C dL_law_636 (rl_addR (kn := 1) (by decide) rfl) ?_
  refine jj_xld C hX hbl hbA (k := 6 * n + 1) (by omega) hL dL_law_637 ?_
  refine jj_aload_n C dL_law_638 rfl ?_
  refine jj_iload C dL_law_639 rfl ?_
  refine jj_iconst (v := 2) C dL_law_641 (by decide) ?_
  refine jj_iadd (v := nI (6 * n + 2)) C dL_law_642 (rl_addR (kn := 2) (by decide) rfl) ?_
  refine jj_xld C hX hbl hbA (k := 6 * n + 2) (by omega) hL dL_law_643 ?_
  refine jj_aload_n C dL_law_644 rfl ?_
  refine jj_iload C dL_law_645 rfl ?_
  refine jj_iconst (v := 3) C dL_law_647 (by decide) ?_
  refine jj_iadd (v := nI (6 * n + 3)) C dL_law_648 (rl_addR (kn := 3) (by decide) rfl) ?_
  refine jj_xld C hX hbl hbA (k := 6 * n + 3) (by omega) hL dL_law_649 ?_
  obtain ⟨K2, aw, aa, at1, ai, af, ap, B, hk, ok2, hm, h13, hM, hB0, hBF⟩ := hR
  obtain ⟨f, P, n6, hc, hcp, h6, un6, hKK, hHP⟩ := hM
  refine tt_pools ?_
  obtain ⟨qd, gt, hqd⟩ := tt_recv (cx := []) ok2 hk.1 (by decide) rfl
  refine tt_callV (rest := []) C (rs_transfer hl D cA ak n6 (xs (6 * n + 1)) (xs (6 * n + 2)) (xs (6 * n + 3)) B (5000 * (n : Int)) f P hk.1 hk.2.1 hk.2.2.1 hk.2.2.2.1 hk.2.2.2.2.1 hk.2.2.2.2.2.1 hk.2.2.2.2.2.2 (by omega) (by omega) hKK hHP (by omega) (by omega) ⟨by omega, by omega⟩ ok2 hm hc hcp h6) [] _ rfl (rz_pkr _) (by decide) (rz_ndr _) rz_dis0 qd hqd rfl rfl jw_c441b2f122 jw_94ab88b694 jw_3457028440 jw_f96c99f44d jw_8070232b3c jn_X11_transfer rfl (jj_le rfl) (jj_le rfl) (by show (200 + 64 * n) + 63 + 0 ≤ 603072; omega) (by show (20000 + 414 * n) + 408 + 0 ≤ 7211114; omega) (jj_le rfl) dL_law_650 rfl (fun _ _ _ hX => hX.elim) (fun rx pm1 r O => ?_)
  obtain ⟨rfl, ok1, hf1, ha1, O⟩ := O
  refine tt_nilr ?_
  refine tt_pools ?_
  have hm_2 := hm.fr hf1 hk.1 (by decide)
  obtain ⟨hM_3, w_4, rfl⟩ := O
  have t_5 := hf1.at hk.1 (by decide) (by decide) h13
  refine jj_lstore C dL_law_653 (by decide) rfl ?_
  refine jj_goto (tgt := 1463) C dL_law_655 (by decide) ?_
  have hR9 : rw_R cA (n + 1) h1 x pm1 := ⟨K2, aw, aa, at1, ai, af, ap, _, hk, ok1, hm_2, t_5, hM_3.mono (Int.le_refl _) (by omega), (by omega), (by omega)⟩
  exact jj_loc [2, 3, 4, 5, 6, 7] rfl (jj_widen (by omega) (by omega) (hb g1 gd x pm1 pl hx hC1 hR9))

set_option maxHeartbeats 4000000 in
set_option maxRecDepth 100000 in
theorem law_c14 {p : Program} {l : Launch} {e : Env} {s : State} {m : MethodId} {below : List Frame} {meth : Method} {c : Code} (hl : l.stackTraces = false) {D : va_G} {cA : Nat → ClassId} {ak : (Nat → Nat) × (Nat → Nat)} {A : Nat → Prop} {b L : Nat} {xs : Nat → Int32} {Q : State → Prop} (C : jj_C p l s m #[Value.ref b] meth c code 9 R_law ret D cA A ak) (hX : va_X b L xs s s.heap) (hbl : b < s.heap.size) (hbA : ¬ A b) (hL : L ≤ 3072) {n h0 h1 ho hd : Nat} (hn : 6 * n + 6 ≤ L) (hb : ∀ (g : Nat → Int64) (gd : Nat → UInt64) (x : Nat) (pR pC : va_W), x ≤ 400 → rw_C cA h0 x pC → rw_R cA (n + 1) h1 x pR → jj_J p l e room_1 s m #[Value.ref b] below meth c 9 A Q (jj_X D A (((ho, .inl (cA 2, 1, .inr (.inl g))) :: (hd, .inl (cA 4, 1, .inr (.inr (.inr (.inl gd))))) :: pR) ++ pC)) (200 + 64 * (n + 1)) (20000 + 414 * (n + 1)) 1463 [(0, .ref b), (1, .ref h0), (2, .ref h1), (3, .ref ho), (4, .ref hd), (5, .int (nI (6 * n)))] []) (g : Nat → Int64) (gd : Nat → UInt64) (x : Nat) (pR pC : va_W) (hx : x ≤ 400) (hC : rw_C cA h0 x pC) (hR : rw_R cA n h1 x pR) : jj_J p l e room_1 s m #[Value.ref b] below meth c 9 A Q (jj_X D A (((ho, .inl (cA 2, 1, .inr (.inl g))) :: (hd, .inl (cA 4, 1, .inr (.inr (.inr (.inl gd))))) :: pR) ++ pC)) (200 + 64 * n) (20000 + 414 * n) 658 [(0, .ref b), (1, .ref h0), (2, .ref h1), (3, .ref ho), (4, .ref hd), (5, .int (nI (6 * n)))] [] := by
  have hxi : (nI x).toInt = (x : Int) := rl_ti (by omega)
  obtain ⟨K, a0, k1, k2, ok, f1, f2⟩ := hC
  refine jj_aload_n C dL_law_658 rfl ?_
  refine jj_aload_n C dL_law_659 rfl ?_
  refine jj_iload C dL_law_660 rfl ?_
  refine jj_iconst (v := 1) C dL_law_662 (by decide) ?_
  refine jj_iadd (v := nI (6 * n + 1)) C dL_law_663 (rl_addR (kn := 1) (by decide) rfl) ?_
  refine jj_xld C hX hbl hbA (k := 6 * n + 1) (by omega) hL dL_law_664 ?_
  refine jj_aload_n C dL_law_665 rfl ?_
  refine tt_callSW (rest := []) C (lm_setGate hl D cA ak h0 ho (xs (6 * n + 1)) g k1 ok) [0] _ rfl (rz_pk1 _ _) (by decide) (rz_ndd _ _) rz_dis1 jw_c58eef2b6c jw_0349953de1 jw_2ec6af59de jw_5c8724c074 jn_L_setGate rfl (jj_le rfl) (jj_le rfl) (by show (200 + 64 * n) + 63 ≤ 603072; omega) (by show (20000 + 414 * n) + 408 ≤ 7211114; omega) (jj_le rfl) dL_law_666 rfl (fun _ _ _ hX => hX.elim) (fun rx pl r O => ?_)
  obtain ⟨K1, hx1, ok1, fr1, g1, v1, rfl, rfl⟩ := O
  refine tt_rot ?_
  have hC1 : rw_C cA h0 x pl := rw_C.go k1 k2 f1 f2 hx1 ok1 fr1 (by decide) (by decide)
  refine jj_istore C dL_law_669 (by decide) rfl ?_
  refine jj_aload_n C dL_law_671 rfl ?_
  refine jj_aload_n C dL_law_672 rfl ?_
  refine jj_iload C dL_law_673 rfl ?_
  refine jj_iconst (v := 1) C dL_law_675 (by decide) ?_
  refine jj_iadd (v := nI (6 * n + 1)) C dL_law_676 (rl_addR (kn := 1) (by decide) rfl) ?_
  refine jj_xld C hX hbl hbA (k := 6 * n + 1) (by omega) hL dL_law_677 ?_
  obtain ⟨K2, aw, aa, at1, ai, af, ap, B, hk, ok2, hm, h13, hM, hB0, hBF⟩ := hR
  obtain ⟨f, P, n6, hc, hcp, h6, un6, hKK, hHP⟩ := hM
  refine tt_pools ?_
  obtain ⟨qd, gt, hqd⟩ := tt_recv (cx := []) ok2 hk.1 (by decide) rfl
  refine tt_callV (rest := []) C (rs_setGate hl D cA ak n6 (xs (6 * n + 1)) B (5000 * (n : Int)) f P hk.1 hk.2.1 hk.2.2.1 hk.2.2.2.1 hk.2.2.2.2.1 hk.2.2.2.2.2.1 hk.2.2.2.2.2.2 (by omega) (by omega) hKK hHP (by omega) (by omega) ⟨by omega, by omega⟩ ok2 hm hc hcp h6) [] _ rfl (rz_pkr _) (by decide) (rz_ndr _) rz_dis0 qd hqd rfl rfl jw_73abcc8b51 jw_3eb373d030 jw_70a7587271 jw_f96c99f44d jw_aaefcbbf36 jn_X11_setGate rfl (jj_le rfl) (jj_le rfl) (by show (200 + 64 * n) + 63 + 0 ≤ 603072; omega) (by show (20000 + 414 * n) + 408 + 0 ≤ 7211114; omega) (jj_le rfl) dL_law_678 rfl (fun _ _ _ hX => hX.elim) (fun rx pm1 r O => ?_)
  obtain ⟨rfl, ok1, hf1, ha1, O⟩ := O
  refine tt_nilr ?_
  refine tt_pools ?_
  have hm_2 := hm.fr hf1 hk.1 (by decide)
  obtain ⟨hM_3, w_4, rfl⟩ := O
  have t_5 := hf1.at hk.1 (by decide) (by decide) h13
  refine jj_istore C dL_law_681 (by decide) rfl ?_
  refine jj_goto (tgt := 1463) C dL_law_683 (by decide) ?_
  have hR9 : rw_R cA (n + 1) h1 x pm1 := ⟨K2, aw, aa, at1, ai, af, ap, _, hk, ok1, hm_2, t_5, hM_3.mono (Int.le_refl _) (by omega), (by omega), (by omega)⟩
  exact jj_loc [2, 3, 4, 5, 6, 7] rfl (jj_widen (by omega) (by omega) (hb g1 gd x pm1 pl hx hC1 hR9))

set_option maxHeartbeats 4000000 in
set_option maxRecDepth 100000 in
theorem law_c15 {p : Program} {l : Launch} {e : Env} {s : State} {m : MethodId} {below : List Frame} {meth : Method} {c : Code} (hl : l.stackTraces = false) {D : va_G} {cA : Nat → ClassId} {ak : (Nat → Nat) × (Nat → Nat)} {A : Nat → Prop} {b L : Nat} {xs : Nat → Int32} {Q : State → Prop} (C : jj_C p l s m #[Value.ref b] meth c code 9 R_law ret D cA A ak) (hX : va_X b L xs s s.heap) (hbl : b < s.heap.size) (hbA : ¬ A b) (hL : L ≤ 3072) {n h0 h1 ho hd : Nat} (hn : 6 * n + 6 ≤ L) (hb : ∀ (g : Nat → Int64) (gd : Nat → UInt64) (x : Nat) (pR pC : va_W), x ≤ 400 → rw_C cA h0 x pC → rw_R cA (n + 1) h1 x pR → jj_J p l e room_1 s m #[Value.ref b] below meth c 9 A Q (jj_X D A (((ho, .inl (cA 2, 1, .inr (.inl g))) :: (hd, .inl (cA 4, 1, .inr (.inr (.inr (.inl gd))))) :: pR) ++ pC)) (200 + 64 * (n + 1)) (20000 + 414 * (n + 1)) 1463 [(0, .ref b), (1, .ref h0), (2, .ref h1), (3, .ref ho), (4, .ref hd), (5, .int (nI (6 * n)))] []) (g : Nat → Int64) (gd : Nat → UInt64) (x : Nat) (pR pC : va_W) (hx : x ≤ 400) (hC : rw_C cA h0 x pC) (hR : rw_R cA n h1 x pR) : jj_J p l e room_1 s m #[Value.ref b] below meth c 9 A Q (jj_X D A (((ho, .inl (cA 2, 1, .inr (.inl g))) :: (hd, .inl (cA 4, 1, .inr (.inr (.inr (.inl gd))))) :: pR) ++ pC)) (200 + 64 * n) (20000 + 414 * n) 686 [(0, .ref b), (1, .ref h0), (2, .ref h1), (3, .ref ho), (4, .ref hd), (5, .int (nI (6 * n)))] [] := by
  have hxi : (nI x).toInt = (x : Int) := rl_ti (by omega)
  obtain ⟨K, a0, k1, k2, ok, f1, f2⟩ := hC
  refine jj_aload_n C dL_law_686 rfl ?_
  obtain ⟨qc, gs, hqc⟩ := tt_recv (cx := []) ok k1 (by decide) rfl
  refine tt_callV (rest := []) C (tf_runScript hl D cA ak h0 a0 k1 k2 ok f1) [] _ rfl (rz_pkr _) (by decide) (rz_ndr _) rz_dis0 qc hqc rfl rfl jw_87028dd592 jw_4b0906bb02 jw_7e0e248041 jw_6f6d707074 jw_afb4873726 jn_X10_runScript rfl (jj_le rfl) (jj_le rfl) (by show (200 + 64 * n) + 64 ≤ 603072; omega) (by show (20000 + 414 * n) + 414 ≤ 7211114; omega) (jj_le rfl) dL_law_687 rfl (fun _ _ _ hX => hX.elim) (fun rx pl r O => ?_)
  obtain ⟨K1, hx1, rfl, ok1, fr1, ⟨fA, v1, rfl⟩⟩ := O
  refine tt_nilr ?_
  have hC1 : rw_C cA h0 0 pl := rw_C.set k1 k2 f1 hx1 ok1 fr1 (by decide) fA rz_n0
  refine jj_pop C dL_law_690 rfl ?_
  refine jj_aload_n C dL_law_691 rfl ?_
  obtain ⟨K2, aw, aa, at1, ai, af, ap, B, hk, ok2, hm, h13, hM, hB0, hBF⟩ := hR
  obtain ⟨f, P, n6, hc, hcp, h6, un6, hKK, hHP⟩ := hM
  refine tt_pools ?_
  obtain ⟨qd, gt, hqd⟩ := tt_recv (cx := []) ok2 hk.1 (by decide) rfl
  refine tt_callV (rest := []) C (rs_runScript hl D cA ak x n6 B (5000 * (n : Int)) f P hk.1 hk.2.1 hk.2.2.1 hk.2.2.2.1 hk.2.2.2.2.1 hk.2.2.2.2.2.1 hk.2.2.2.2.2.2 (by omega) (by omega) (by omega) (by omega) hKK hHP (by omega) (by omega) ⟨by omega, by omega⟩ ok2 hm hc hcp h6 h13) [] _ rfl (rz_pkr _) (by decide) (rz_ndr _) rz_dis0 qd hqd rfl rfl jw_39fb6b51f4 jw_bf73bb54e1 jw_c2d2aff190 jw_f96c99f44d jw_e962e6245a jn_X11_runScript rfl (jj_le rfl) (jj_le rfl) (by show (200 + 64 * n) + 64 + 0 ≤ 603072; omega) (by show (20000 + 414 * n) + 414 + 0 ≤ 7211114; omega) (jj_le rfl) dL_law_692 rfl (fun _ _ _ hX => hX.elim) (fun rx pm1 r O => ?_)
  obtain ⟨rfl, ok1, hf1, ha1, O⟩ := O
  refine tt_nilr ?_
  refine tt_pools ?_
  have hm_2 := hm.fr hf1 hk.1 (by decide)
  obtain ⟨hM_3, s13, w_4, rfl⟩ := O
  rw [rz_n0] at s13
  refine jj_pop C dL_law_695 rfl ?_
  refine jj_goto (tgt := 1463) C dL_law_696 (by decide) ?_
  have hR9 : rw_R cA (n + 1) h1 0 pm1 := ⟨K2, aw, aa, at1, ai, af, ap, _, hk, ok1, hm_2, s13, hM_3.mono (Int.le_refl _) (by omega), (by omega), (by omega)⟩
  exact jj_loc [0, 1, 2, 3, 4, 5] rfl (jj_widen (by omega) (by omega) (hb g gd 0 pm1 pl (by omega) hC1 hR9))

set_option maxHeartbeats 4000000 in
set_option maxRecDepth 100000 in
theorem law_c16 {p : Program} {l : Launch} {e : Env} {s : State} {m : MethodId} {below : List Frame} {meth : Method} {c : Code} (hl : l.stackTraces = false) {D : va_G} {cA : Nat → ClassId} {ak : (Nat → Nat) × (Nat → Nat)} {A : Nat → Prop} {b L : Nat} {xs : Nat → Int32} {Q : State → Prop} (C : jj_C p l s m #[Value.ref b] meth c code 9 R_law ret D cA A ak) (hX : va_X b L xs s s.heap) (hbl : b < s.heap.size) (hbA : ¬ A b) (hL : L ≤ 3072) {n h0 h1 ho hd : Nat} (hn : 6 * n + 6 ≤ L) (hb : ∀ (g : Nat → Int64) (gd : Nat → UInt64) (x : Nat) (pR pC : va_W), x ≤ 400 → rw_C cA h0 x pC → rw_R cA (n + 1) h1 x pR → jj_J p l e room_1 s m #[Value.ref b] below meth c 9 A Q (jj_X D A (((ho, .inl (cA 2, 1, .inr (.inl g))) :: (hd, .inl (cA 4, 1, .inr (.inr (.inr (.inl gd))))) :: pR) ++ pC)) (200 + 64 * (n + 1)) (20000 + 414 * (n + 1)) 1463 [(0, .ref b), (1, .ref h0), (2, .ref h1), (3, .ref ho), (4, .ref hd), (5, .int (nI (6 * n)))] []) (g : Nat → Int64) (gd : Nat → UInt64) (x : Nat) (pR pC : va_W) (hx : x ≤ 400) (hC : rw_C cA h0 x pC) (hR : rw_R cA n h1 x pR) : jj_J p l e room_1 s m #[Value.ref b] below meth c 9 A Q (jj_X D A (((ho, .inl (cA 2, 1, .inr (.inl g))) :: (hd, .inl (cA 4, 1, .inr (.inr (.inr (.inl gd))))) :: pR) ++ pC)) (200 + 64 * n) (20000 + 414 * n) 699 [(0, .ref b), (1, .ref h0), (2, .ref h1), (3, .ref ho), (4, .ref hd), (5, .int (nI (6 * n)))] [] := by
  have hxi : (nI x).toInt = (x : Int) := rl_ti (by omega)
  obtain ⟨K, a0, k1, k2, ok, f1, f2⟩ := hC
  refine jj_aload_n C dL_law_699 rfl ?_
  refine jj_aload_n C dL_law_700 rfl ?_
  refine jj_iload C dL_law_701 rfl ?_
  refine jj_iconst (v := 1) C dL_law_703 (by decide) ?_
  refine jj_iadd (v := nI (6 * n + 1)) C dL_law_704 (rl_addR (kn := 1) (by decide) rfl) ?_
  refine jj_xld C hX hbl hbA (k := 6 * n + 1) (by omega) hL dL_law_705 ?_
  refine jj_aload_n C dL_law_706 rfl ?_
  refine tt_callSW (rest := []) C (lm_count hl D cA ak h0 ho (xs (6 * n + 1)) g k1 ok) [0] _ rfl (rz_pk1 _ _) (by decide) (rz_ndd _ _) rz_dis1 jw_e588444210 jw_49c9eaf352 jw_2ec6af59de jw_c8f9bf07c6 jn_L_count rfl (jj_le rfl) (jj_le rfl) (by show (200 + 64 * n) + 1 ≤ 603072; omega) (by show (20000 + 414 * n) + 6 ≤ 7211114; omega) (jj_le rfl) dL_law_707 rfl (fun _ _ _ hX => hX.elim) (fun rx pl r O => ?_)
  obtain ⟨K1, hx1, ok1, fr1, g1, v1, rfl, rfl⟩ := O
  refine tt_rot ?_
  have hC1 : rw_C cA h0 x pl := rw_C.go k1 k2 f1 f2 hx1 ok1 fr1 (by decide) (by decide)
  refine jj_istore C dL_law_710 (by decide) rfl ?_
  refine jj_aload_n C dL_law_712 rfl ?_
  refine jj_aload_n C dL_law_713 rfl ?_
  refine jj_iload C dL_law_714 rfl ?_
  refine jj_iconst (v := 1) C dL_law_716 (by decide) ?_
  refine jj_iadd (v := nI (6 * n + 1)) C dL_law_717 (rl_addR (kn := 1) (by decide) rfl) ?_
  refine jj_xld C hX hbl hbA (k := 6 * n + 1) (by omega) hL dL_law_718 ?_
  obtain ⟨K2, aw, aa, at1, ai, af, ap, B, hk, ok2, hm, h13, hM, hB0, hBF⟩ := hR
  obtain ⟨f, P, n6, hc, hcp, h6, un6, hKK, hHP⟩ := hM
  refine tt_pools ?_
  obtain ⟨qd, gt, hqd⟩ := tt_recv (cx := []) ok2 hk.1 (by decide) rfl
  refine tt_callV (rest := []) C (rs_count hl D cA ak n6 (xs (6 * n + 1)) B (5000 * (n : Int)) f P hk.1 hk.2.1 hk.2.2.1 hk.2.2.2.1 hk.2.2.2.2.1 hk.2.2.2.2.2.1 hk.2.2.2.2.2.2 (by omega) (by omega) hKK hHP (by omega) (by omega) ⟨by omega, by omega⟩ ok2 hm hc hcp h6) [] _ rfl (rz_pkr _) (by decide) (rz_ndr _) rz_dis0 qd hqd rfl rfl jw_8a0e5200ea jw_e192db6160 jw_c440fc4357 jw_f96c99f44d jw_56287947ed jn_X11_count rfl (jj_le rfl) (jj_le rfl) (by show (200 + 64 * n) + 1 + 0 ≤ 603072; omega) (by show (20000 + 414 * n) + 6 + 0 ≤ 7211114; omega) (jj_le rfl) dL_law_719 rfl (fun _ _ _ hX => hX.elim) (fun rx pm1 r O => ?_)
  obtain ⟨rfl, ok1, hf1, ha1, O⟩ := O
  refine tt_nilr ?_
  refine tt_pools ?_
  have hm_2 := hm.fr hf1 hk.1 (by decide)
  obtain ⟨hM_3, w_4, rfl⟩ := O
  have t_5 := hf1.at hk.1 (by decide) (by decide) h13
  refine jj_istore C dL_law_722 (by decide) rfl ?_
  refine jj_goto (tgt := 1463) C dL_law_724 (by decide) ?_
  have hR9 : rw_R cA (n + 1) h1 x pm1 := ⟨K2, aw, aa, at1, ai, af, ap, _, hk, ok1, hm_2, t_5, hM_3.mono (Int.le_refl _) (by omega), (by omega), (by omega)⟩
  exact jj_loc [2, 3, 4, 5, 6, 7] rfl (jj_widen (by omega) (by omega) (hb g1 gd x pm1 pl hx hC1 hR9))

set_option maxHeartbeats 4000000 in
set_option maxRecDepth 100000 in
theorem law_c17 {p : Program} {l : Launch} {e : Env} {s : State} {m : MethodId} {below : List Frame} {meth : Method} {c : Code} (hl : l.stackTraces = false) {D : va_G} {cA : Nat → ClassId} {ak : (Nat → Nat) × (Nat → Nat)} {A : Nat → Prop} {b L : Nat} {xs : Nat → Int32} {Q : State → Prop} (C : jj_C p l s m #[Value.ref b] meth c code 9 R_law ret D cA A ak) (hX : va_X b L xs s s.heap) (hbl : b < s.heap.size) (hbA : ¬ A b) (hL : L ≤ 3072) {n h0 h1 ho hd : Nat} (hn : 6 * n + 6 ≤ L) (hb : ∀ (g : Nat → Int64) (gd : Nat → UInt64) (x : Nat) (pR pC : va_W), x ≤ 400 → rw_C cA h0 x pC → rw_R cA (n + 1) h1 x pR → jj_J p l e room_1 s m #[Value.ref b] below meth c 9 A Q (jj_X D A (((ho, .inl (cA 2, 1, .inr (.inl g))) :: (hd, .inl (cA 4, 1, .inr (.inr (.inr (.inl gd))))) :: pR) ++ pC)) (200 + 64 * (n + 1)) (20000 + 414 * (n + 1)) 1463 [(0, .ref b), (1, .ref h0), (2, .ref h1), (3, .ref ho), (4, .ref hd), (5, .int (nI (6 * n)))] []) (g : Nat → Int64) (gd : Nat → UInt64) (x : Nat) (pR pC : va_W) (hx : x ≤ 400) (hC : rw_C cA h0 x pC) (hR : rw_R cA n h1 x pR) : jj_J p l e room_1 s m #[Value.ref b] below meth c 9 A Q (jj_X D A (((ho, .inl (cA 2, 1, .inr (.inl g))) :: (hd, .inl (cA 4, 1, .inr (.inr (.inr (.inl gd))))) :: pR) ++ pC)) (200 + 64 * n) (20000 + 414 * n) 727 [(0, .ref b), (1, .ref h0), (2, .ref h1), (3, .ref ho), (4, .ref hd), (5, .int (nI (6 * n)))] [] := by
  have hxi : (nI x).toInt = (x : Int) := rl_ti (by omega)
  obtain ⟨K, a0, k1, k2, ok, f1, f2⟩ := hC
  refine jj_aload_n C dL_law_727 rfl ?_
  obtain ⟨qc, gs, hqc⟩ := tt_recv (cx := []) ok k1 (by decide) rfl
  refine tt_callV (rest := []) C (tc_X10_netAssets_1 hl D cA ak h0 k1 ok) [] _ rfl (rz_pkr _) (by decide) (rz_ndr _) rz_dis0 qc hqc rfl rfl jw_86e13e06b4 jw_cd5eb1919c jw_6caa6141fd jw_6f6d707074 jw_f07e8aa61a jn_X10_netAssets rfl (jj_le rfl) (jj_le rfl) (by show (200 + 64 * n) + 0 ≤ 603072; omega) (by show (20000 + 414 * n) + 0 ≤ 7211114; omega) (jj_le rfl) dL_law_728 rfl (fun _ _ _ hX => hX.elim) (fun rx pl r O => ?_)
  obtain ⟨rfl, ok1, fr1, ⟨v1, rfl⟩⟩ := O
  refine tt_nilr ?_
  have hC1 : rw_C cA h0 x pl := rw_C.go k1 k2 f1 f2 (tt_ex.refl _) ok1 fr1 (by decide) (by decide)
  refine jj_pop2 C dL_law_731 rfl ?_
  refine jj_aload_n C dL_law_732 rfl ?_
  obtain ⟨K2, aw, aa, at1, ai, af, ap, B, hk, ok2, hm, h13, hM, hB0, hBF⟩ := hR
  obtain ⟨f, P, n6, hc, hcp, h6, un6, hKK, hHP⟩ := hM
  refine tt_pools ?_
  obtain ⟨qd, gt, hqd⟩ := tt_recv (cx := []) ok2 hk.1 (by decide) rfl
  refine tt_callV (rest := []) C (rs_netAssets hl D cA ak n6 B (5000 * (n : Int)) f P hk.1 hk.2.1 hk.2.2.1 hk.2.2.2.1 hk.2.2.2.2.1 hk.2.2.2.2.2.1 hk.2.2.2.2.2.2 (by omega) (by omega) hKK hHP (by omega) (by omega) ⟨by omega, by omega⟩ ok2 hm hc hcp h6) [] _ rfl (rz_pkr _) (by decide) (rz_ndr _) rz_dis0 qd hqd rfl rfl jw_56233df521 jw_0c4f5d14cc jw_fba9930fab jw_f96c99f44d jw_fa9e5a17f3 jn_X11_netAssets rfl (jj_le rfl) (jj_le rfl) (by show (200 + 64 * n) + 0 + 0 ≤ 603072; omega) (by show (20000 + 414 * n) + 0 + 0 ≤ 7211114; omega) (jj_le rfl) dL_law_733 rfl (fun _ _ _ hX => hX.elim) (fun rx pm1 r O => ?_)
  obtain ⟨rfl, ok1, hf1, ha1, O⟩ := O
  refine tt_nilr ?_
  refine tt_pools ?_
  have hm_2 := hm.fr hf1 hk.1 (by decide)
  obtain ⟨hM_3, w_4, rfl⟩ := O
  have t_5 := hf1.at hk.1 (by decide) (by decide) h13
  refine jj_pop2 C dL_law_736 rfl ?_
  refine jj_goto (tgt := 1463) C dL_law_737 (by decide) ?_
  have hR9 : rw_R cA (n + 1) h1 x pm1 := ⟨K2, aw, aa, at1, ai, af, ap, _, hk, ok1, hm_2, t_5, hM_3.mono (Int.le_refl _) (by omega), (by omega), (by omega)⟩
  exact jj_loc [0, 1, 2, 3, 4, 5] rfl (jj_widen (by omega) (by omega) (hb g gd x pm1 pl hx hC1 hR9))

set_option maxHeartbeats 4000000 in
set_option maxRecDepth 100000 in
theorem law_c18 {p : Program} {l : Launch} {e : Env} {s : State} {m : MethodId} {below : List Frame} {meth : Method} {c : Code} (hl : l.stackTraces = false) {D : va_G} {cA : Nat → ClassId} {ak : (Nat → Nat) × (Nat → Nat)} {A : Nat → Prop} {b L : Nat} {xs : Nat → Int32} {Q : State → Prop} (C : jj_C p l s m #[Value.ref b] meth c code 9 R_law ret D cA A ak) (hX : va_X b L xs s s.heap) (hbl : b < s.heap.size) (hbA : ¬ A b) (hL : L ≤ 3072) {n h0 h1 ho hd : Nat} (hn : 6 * n + 6 ≤ L) (hb : ∀ (g : Nat → Int64) (gd : Nat → UInt64) (x : Nat) (pR pC : va_W), x ≤ 400 → rw_C cA h0 x pC → rw_R cA (n + 1) h1 x pR → jj_J p l e room_1 s m #[Value.ref b] below meth c 9 A Q (jj_X D A (((ho, .inl (cA 2, 1, .inr (.inl g))) :: (hd, .inl (cA 4, 1, .inr (.inr (.inr (.inl gd))))) :: pR) ++ pC)) (200 + 64 * (n + 1)) (20000 + 414 * (n + 1)) 1463 [(0, .ref b), (1, .ref h0), (2, .ref h1), (3, .ref ho), (4, .ref hd), (5, .int (nI (6 * n)))] []) (g : Nat → Int64) (gd : Nat → UInt64) (x : Nat) (pR pC : va_W) (hx : x ≤ 400) (hC : rw_C cA h0 x pC) (hR : rw_R cA n h1 x pR) : jj_J p l e room_1 s m #[Value.ref b] below meth c 9 A Q (jj_X D A (((ho, .inl (cA 2, 1, .inr (.inl g))) :: (hd, .inl (cA 4, 1, .inr (.inr (.inr (.inl gd))))) :: pR) ++ pC)) (200 + 64 * n) (20000 + 414 * n) 740 [(0, .ref b), (1, .ref h0), (2, .ref h1), (3, .ref ho), (4, .ref hd), (5, .int (nI (6 * n)))] [] := by
  have hxi : (nI x).toInt = (x : Int) := rl_ti (by omega)
  obtain ⟨K, a0, k1, k2, ok, f1, f2⟩ := hC
  refine jj_aload_n C dL_law_740 rfl ?_
  refine jj_aload_n C dL_law_741 rfl ?_
  refine jj_iload C dL_law_742 rfl ?_
  refine jj_iconst (v := 1) C dL_law_744 (by decide) ?_
  refine jj_iadd (v := nI (6 * n + 1)) C dL_law_745 (rl_addR (kn := 1) (by decide) rfl) ?_
  refine jj_xld C hX hbl hbA (k := 6 * n + 1) (by omega) hL dL_law_746 ?_
  refine jj_aload_n C dL_law_747 rfl ?_
  refine tt_callSW (rest := []) C (lm_account hl D cA ak h0 ho (xs (6 * n + 1)) g k1 ok) [0] _ rfl (rz_pk1 _ _) (by decide) (rz_ndd _ _) rz_dis1 jw_d16a066355 jw_984971555c jw_2ec6af59de jw_e7cf068d63 jn_L_account rfl (jj_le rfl) (jj_le rfl) (by show (200 + 64 * n) + 1 ≤ 603072; omega) (by show (20000 + 414 * n) + 6 ≤ 7211114; omega) (jj_le rfl) dL_law_748 rfl (fun _ _ _ hX => hX.elim) (fun rx pl r O => ?_)
  obtain ⟨K1, hx1, ok1, fr1, g1, v1, rfl, rfl⟩ := O
  refine tt_rot ?_
  have hC1 : rw_C cA h0 x pl := rw_C.go k1 k2 f1 f2 hx1 ok1 fr1 (by decide) (by decide)
  refine jj_istore C dL_law_751 (by decide) rfl ?_
  refine jj_aload_n C dL_law_753 rfl ?_
  refine jj_aload_n C dL_law_754 rfl ?_
  refine jj_iload C dL_law_755 rfl ?_
  refine jj_iconst (v := 1) C dL_law_757 (by decide) ?_
  refine jj_iadd (v := nI (6 * n + 1)) C dL_law_758 (rl_addR (kn := 1) (by decide) rfl) ?_
  refine jj_xld C hX hbl hbA (k := 6 * n + 1) (by omega) hL dL_law_759 ?_
  obtain ⟨K2, aw, aa, at1, ai, af, ap, B, hk, ok2, hm, h13, hM, hB0, hBF⟩ := hR
  obtain ⟨f, P, n6, hc, hcp, h6, un6, hKK, hHP⟩ := hM
  refine tt_pools ?_
  obtain ⟨qd, gt, hqd⟩ := tt_recv (cx := []) ok2 hk.1 (by decide) rfl
  refine tt_callV (rest := []) C (rs_account hl D cA ak n6 (xs (6 * n + 1)) B (5000 * (n : Int)) f P hk.1 hk.2.1 hk.2.2.1 hk.2.2.2.1 hk.2.2.2.2.1 hk.2.2.2.2.2.1 hk.2.2.2.2.2.2 (by omega) (by omega) hKK hHP (by omega) (by omega) ⟨by omega, by omega⟩ ok2 hm hc hcp h6) [] _ rfl (rz_pkr _) (by decide) (rz_ndr _) rz_dis0 qd hqd rfl rfl jw_ac994eafca jw_f0b19bc934 jw_974a4f3e86 jw_f96c99f44d jw_3e9460b5de jn_X11_account rfl (jj_le rfl) (jj_le rfl) (by show (200 + 64 * n) + 1 + 0 ≤ 603072; omega) (by show (20000 + 414 * n) + 6 + 0 ≤ 7211114; omega) (jj_le rfl) dL_law_760 rfl (fun _ _ _ hX => hX.elim) (fun rx pm1 r O => ?_)
  obtain ⟨rfl, ok1, hf1, ha1, O⟩ := O
  refine tt_nilr ?_
  refine tt_pools ?_
  have hm_2 := hm.fr hf1 hk.1 (by decide)
  obtain ⟨hM_3, w_4, rfl⟩ := O
  have t_5 := hf1.at hk.1 (by decide) (by decide) h13
  refine jj_lstore C dL_law_763 (by decide) rfl ?_
  refine jj_goto (tgt := 1463) C dL_law_765 (by decide) ?_
  have hR9 : rw_R cA (n + 1) h1 x pm1 := ⟨K2, aw, aa, at1, ai, af, ap, _, hk, ok1, hm_2, t_5, hM_3.mono (Int.le_refl _) (by omega), (by omega), (by omega)⟩
  exact jj_loc [2, 3, 4, 5, 6, 7] rfl (jj_widen (by omega) (by omega) (hb g1 gd x pm1 pl hx hC1 hR9))

set_option maxHeartbeats 4000000 in
set_option maxRecDepth 100000 in
theorem law_c19 {p : Program} {l : Launch} {e : Env} {s : State} {m : MethodId} {below : List Frame} {meth : Method} {c : Code} (hl : l.stackTraces = false) {D : va_G} {cA : Nat → ClassId} {ak : (Nat → Nat) × (Nat → Nat)} {A : Nat → Prop} {b L : Nat} {xs : Nat → Int32} {Q : State → Prop} (C : jj_C p l s m #[Value.ref b] meth c code 9 R_law ret D cA A ak) (hX : va_X b L xs s s.heap) (hbl : b < s.heap.size) (hbA : ¬ A b) (hL : L ≤ 3072) {n h0 h1 ho hd : Nat} (hn : 6 * n + 6 ≤ L) (hb : ∀ (g : Nat → Int64) (gd : Nat → UInt64) (x : Nat) (pR pC : va_W), x ≤ 400 → rw_C cA h0 x pC → rw_R cA (n + 1) h1 x pR → jj_J p l e room_1 s m #[Value.ref b] below meth c 9 A Q (jj_X D A (((ho, .inl (cA 2, 1, .inr (.inl g))) :: (hd, .inl (cA 4, 1, .inr (.inr (.inr (.inl gd))))) :: pR) ++ pC)) (200 + 64 * (n + 1)) (20000 + 414 * (n + 1)) 1463 [(0, .ref b), (1, .ref h0), (2, .ref h1), (3, .ref ho), (4, .ref hd), (5, .int (nI (6 * n)))] []) (g : Nat → Int64) (gd : Nat → UInt64) (x : Nat) (pR pC : va_W) (hx : x ≤ 400) (hC : rw_C cA h0 x pC) (hR : rw_R cA n h1 x pR) : jj_J p l e room_1 s m #[Value.ref b] below meth c 9 A Q (jj_X D A (((ho, .inl (cA 2, 1, .inr (.inl g))) :: (hd, .inl (cA 4, 1, .inr (.inr (.inr (.inl gd))))) :: pR) ++ pC)) (200 + 64 * n) (20000 + 414 * n) 768 [(0, .ref b), (1, .ref h0), (2, .ref h1), (3, .ref ho), (4, .ref hd), (5, .int (nI (6 * n)))] [] := by
  have hxi : (nI x).toInt = (x : Int) := rl_ti (by omega)
  obtain ⟨K, a0, k1, k2, ok, f1, f2⟩ := hC
  refine jj_aload_n C dL_law_768 rfl ?_
  refine jj_aload_n C dL_law_769 rfl ?_
  refine jj_iload C dL_law_770 rfl ?_
  refine jj_iconst (v := 1) C dL_law_772 (by decide) ?_
  refine jj_iadd (v := nI (6 * n + 1)) C dL_law_773 (rl_addR (kn := 1) (by decide) rfl) ?_
  refine jj_xld C hX hbl hbA (k := 6 * n + 1) (by omega) hL dL_law_774 ?_
  refine jj_aload_n C dL_law_775 rfl ?_
  refine tt_callSW (rest := []) C (lm_openSeries hl D cA ak h0 ho (xs (6 * n + 1)) g k1 ok) [0] _ rfl (rz_pk1 _ _) (by decide) (rz_ndd _ _) rz_dis1 jw_88a2460362 jw_91a6d48e89 jw_2ec6af59de jw_fcb27d7b3e jn_L_openSeries rfl (jj_le rfl) (jj_le rfl) (by show (200 + 64 * n) + 1 ≤ 603072; omega) (by show (20000 + 414 * n) + 6 ≤ 7211114; omega) (jj_le rfl) dL_law_776 rfl (fun _ _ _ hX => hX.elim) (fun rx pl r O => ?_)
  obtain ⟨K1, hx1, ok1, fr1, g1, v1, rfl, rfl⟩ := O
  refine tt_rot ?_
  have hC1 : rw_C cA h0 x pl := rw_C.go k1 k2 f1 f2 hx1 ok1 fr1 (by decide) (by decide)
  refine jj_istore C dL_law_779 (by decide) rfl ?_
  refine jj_aload_n C dL_law_781 rfl ?_
  refine jj_aload_n C dL_law_782 rfl ?_
  refine jj_iload C dL_law_783 rfl ?_
  refine jj_iconst (v := 1) C dL_law_785 (by decide) ?_
  refine jj_iadd (v := nI (6 * n + 1)) C dL_law_786 (rl_addR (kn := 1) (by decide) rfl) ?_
  refine jj_xld C hX hbl hbA (k := 6 * n + 1) (by omega) hL dL_law_787 ?_
  obtain ⟨K2, aw, aa, at1, ai, af, ap, B, hk, ok2, hm, h13, hM, hB0, hBF⟩ := hR
  obtain ⟨f, P, n6, hc, hcp, h6, un6, hKK, hHP⟩ := hM
  refine tt_pools ?_
  obtain ⟨qd, gt, hqd⟩ := tt_recv (cx := []) ok2 hk.1 (by decide) rfl
  refine tt_callV (rest := []) C (rs_openSeries hl D cA ak n6 (xs (6 * n + 1)) B (5000 * (n : Int)) f P hk.1 hk.2.1 hk.2.2.1 hk.2.2.2.1 hk.2.2.2.2.1 hk.2.2.2.2.2.1 hk.2.2.2.2.2.2 (by omega) (by omega) hKK hHP (by omega) (by omega) ⟨by omega, by omega⟩ ok2 hm hc hcp h6) [] _ rfl (rz_pkr _) (by decide) (rz_ndr _) rz_dis0 qd hqd rfl rfl jw_c5e34ed62a jw_116fd4a935 jw_81bfa8827a jw_f96c99f44d jw_5fffbc3722 jn_X11_openSeries rfl (jj_le rfl) (jj_le rfl) (by show (200 + 64 * n) + 1 + 0 ≤ 603072; omega) (by show (20000 + 414 * n) + 6 + 0 ≤ 7211114; omega) (jj_le rfl) dL_law_788 rfl (fun _ _ _ hX => hX.elim) (fun rx pm1 r O => ?_)
  obtain ⟨rfl, ok1, hf1, ha1, O⟩ := O
  refine tt_nilr ?_
  refine tt_pools ?_
  have hm_2 := hm.fr hf1 hk.1 (by decide)
  obtain ⟨hM_3, w_4, rfl⟩ := O
  have t_5 := hf1.at hk.1 (by decide) (by decide) h13
  refine jj_istore C dL_law_791 (by decide) rfl ?_
  refine jj_goto (tgt := 1463) C dL_law_793 (by decide) ?_
  have hR9 : rw_R cA (n + 1) h1 x pm1 := ⟨K2, aw, aa, at1, ai, af, ap, _, hk, ok1, hm_2, t_5, hM_3.mono (Int.le_refl _) (by omega), (by omega), (by omega)⟩
  exact jj_loc [2, 3, 4, 5, 6, 7] rfl (jj_widen (by omega) (by omega) (hb g1 gd x pm1 pl hx hC1 hR9))

set_option maxHeartbeats 4000000 in
set_option maxRecDepth 100000 in
theorem law_c20 {p : Program} {l : Launch} {e : Env} {s : State} {m : MethodId} {below : List Frame} {meth : Method} {c : Code} (hl : l.stackTraces = false) {D : va_G} {cA : Nat → ClassId} {ak : (Nat → Nat) × (Nat → Nat)} {A : Nat → Prop} {b L : Nat} {xs : Nat → Int32} {Q : State → Prop} (C : jj_C p l s m #[Value.ref b] meth c code 9 R_law ret D cA A ak) (hX : va_X b L xs s s.heap) (hbl : b < s.heap.size) (hbA : ¬ A b) (hL : L ≤ 3072) {n h0 h1 ho hd : Nat} (hn : 6 * n + 6 ≤ L) (hb : ∀ (g : Nat → Int64) (gd : Nat → UInt64) (x : Nat) (pR pC : va_W), x ≤ 400 → rw_C cA h0 x pC → rw_R cA (n + 1) h1 x pR → jj_J p l e room_1 s m #[Value.ref b] below meth c 9 A Q (jj_X D A (((ho, .inl (cA 2, 1, .inr (.inl g))) :: (hd, .inl (cA 4, 1, .inr (.inr (.inr (.inl gd))))) :: pR) ++ pC)) (200 + 64 * (n + 1)) (20000 + 414 * (n + 1)) 1463 [(0, .ref b), (1, .ref h0), (2, .ref h1), (3, .ref ho), (4, .ref hd), (5, .int (nI (6 * n)))] []) (g : Nat → Int64) (gd : Nat → UInt64) (x : Nat) (pR pC : va_W) (hx : x ≤ 400) (hC : rw_C cA h0 x pC) (hR : rw_R cA n h1 x pR) : jj_J p l e room_1 s m #[Value.ref b] below meth c 9 A Q (jj_X D A (((ho, .inl (cA 2, 1, .inr (.inl g))) :: (hd, .inl (cA 4, 1, .inr (.inr (.inr (.inl gd))))) :: pR) ++ pC)) (200 + 64 * n) (20000 + 414 * n) 796 [(0, .ref b), (1, .ref h0), (2, .ref h1), (3, .ref ho), (4, .ref hd), (5, .int (nI (6 * n)))] [] := by
  have hxi : (nI x).toInt = (x : Int) := rl_ti (by omega)
  obtain ⟨K, a0, k1, k2, ok, f1, f2⟩ := hC
  refine jj_aload_n C dL_law_796 rfl ?_
  refine jj_aload_n C dL_law_797 rfl ?_
  refine jj_iload C dL_law_798 rfl ?_
  refine jj_iconst (v := 1) C dL_law_800 (by decide) ?_
  refine jj_iadd (v := nI (6 * n + 1)) C dL_law_801 (rl_addR (kn := 1) (by decide) rfl) ?_
  refine jj_xld C hX hbl hbA (k := 6 * n + 1) (by omega) hL dL_law_802 ?_
  refine jj_aload_n C dL_law_803 rfl ?_
  refine jj_iload C dL_law_804 rfl ?_
  refine jj_iconst (v := 2) C dL_law_806 (by decide) ?_
  refine jj_iadd (v := nI (6 * n + 2)) C dL_law_807 (rl_addR (kn := 2) (by decide) rfl) ?_
  refine jj_xld C hX hbl hbA (k := 6 * n + 2) (by omega) hL dL_law_808 ?_
  refine jj_aload_n C dL_law_809 rfl ?_
  refine tt_callSW (rest := []) C (lm_seriesValue hl D cA ak h0 ho (xs (6 * n + 1)) (xs (6 * n + 2)) g k1 ok) [0] _ rfl (rz_pk1 _ _) (by decide) (rz_ndd _ _) rz_dis1 jw_f33fada91b jw_913488080a jw_2ec6af59de jw_17d8e864a4 jn_L_seriesValue rfl (jj_le rfl) (jj_le rfl) (by show (200 + 64 * n) + 2 ≤ 603072; omega) (by show (20000 + 414 * n) + 12 ≤ 7211114; omega) (jj_le rfl) dL_law_810 rfl (fun _ _ _ hX => hX.elim) (fun rx pl r O => ?_)
  obtain ⟨K1, hx1, ok1, fr1, g1, v1, rfl, rfl⟩ := O
  refine tt_rot ?_
  have hC1 : rw_C cA h0 x pl := rw_C.go k1 k2 f1 f2 hx1 ok1 fr1 (by decide) (by decide)
  refine jj_istore C dL_law_813 (by decide) rfl ?_
  refine jj_aload_n C dL_law_815 rfl ?_
  refine jj_aload_n C dL_law_816 rfl ?_
  refine jj_iload C dL_law_817 rfl ?_
  refine jj_iconst (v := 1) C dL_law_819 (by decide) ?_
  refine jj_iadd (v := nI (6 * n + 1)) C dL_law_820 (rl_addR (kn := 1) (by decide) rfl) ?_
  refine jj_xld C hX hbl hbA (k := 6 * n + 1) (by omega) hL dL_law_821 ?_
  refine jj_aload_n C dL_law_822 rfl ?_
  refine jj_iload C dL_law_823 rfl ?_
  refine jj_iconst (v := 2) C dL_law_825 (by decide) ?_
  refine jj_iadd (v := nI (6 * n + 2)) C dL_law_826 (rl_addR (kn := 2) (by decide) rfl) ?_
  refine jj_xld C hX hbl hbA (k := 6 * n + 2) (by omega) hL dL_law_827 ?_
  obtain ⟨K2, aw, aa, at1, ai, af, ap, B, hk, ok2, hm, h13, hM, hB0, hBF⟩ := hR
  obtain ⟨f, P, n6, hc, hcp, h6, un6, hKK, hHP⟩ := hM
  refine tt_pools ?_
  obtain ⟨qd, gt, hqd⟩ := tt_recv (cx := []) ok2 hk.1 (by decide) rfl
  refine tt_callV (rest := []) C (rs_seriesValue hl D cA ak n6 (xs (6 * n + 1)) (xs (6 * n + 2)) B (5000 * (n : Int)) f P hk.1 hk.2.1 hk.2.2.1 hk.2.2.2.1 hk.2.2.2.2.1 hk.2.2.2.2.2.1 hk.2.2.2.2.2.2 (by omega) (by omega) hKK hHP (by omega) (by omega) ⟨by omega, by omega⟩ ok2 hm hc hcp h6) [] _ rfl (rz_pkr _) (by decide) (rz_ndr _) rz_dis0 qd hqd rfl rfl jw_0d94297a4f jw_d12790a0ea jw_7c1076a12f jw_f96c99f44d jw_7101a3ef5e jn_X11_seriesValue rfl (jj_le rfl) (jj_le rfl) (by show (200 + 64 * n) + 2 + 0 ≤ 603072; omega) (by show (20000 + 414 * n) + 12 + 0 ≤ 7211114; omega) (jj_le rfl) dL_law_828 rfl (fun _ _ _ hX => hX.elim) (fun rx pm1 r O => ?_)
  obtain ⟨rfl, ok1, hf1, ha1, O⟩ := O
  refine tt_nilr ?_
  refine tt_pools ?_
  have hm_2 := hm.fr hf1 hk.1 (by decide)
  obtain ⟨hM_3, w_4, rfl⟩ := O
  have t_5 := hf1.at hk.1 (by decide) (by decide) h13
  refine jj_lstore C dL_law_831 (by decide) rfl ?_
  refine jj_goto (tgt := 1463) C dL_law_833 (by decide) ?_
  have hR9 : rw_R cA (n + 1) h1 x pm1 := ⟨K2, aw, aa, at1, ai, af, ap, _, hk, ok1, hm_2, t_5, hM_3.mono (Int.le_refl _) (by omega), (by omega), (by omega)⟩
  exact jj_loc [2, 3, 4, 5, 6, 7] rfl (jj_widen (by omega) (by omega) (hb g1 gd x pm1 pl hx hC1 hR9))

set_option maxHeartbeats 4000000 in
set_option maxRecDepth 100000 in
theorem law_c21 {p : Program} {l : Launch} {e : Env} {s : State} {m : MethodId} {below : List Frame} {meth : Method} {c : Code} (hl : l.stackTraces = false) {D : va_G} {cA : Nat → ClassId} {ak : (Nat → Nat) × (Nat → Nat)} {A : Nat → Prop} {b L : Nat} {xs : Nat → Int32} {Q : State → Prop} (C : jj_C p l s m #[Value.ref b] meth c code 9 R_law ret D cA A ak) (hX : va_X b L xs s s.heap) (hbl : b < s.heap.size) (hbA : ¬ A b) (hL : L ≤ 3072) {n h0 h1 ho hd : Nat} (hn : 6 * n + 6 ≤ L) (hb : ∀ (g : Nat → Int64) (gd : Nat → UInt64) (x : Nat) (pR pC : va_W), x ≤ 400 → rw_C cA h0 x pC → rw_R cA (n + 1) h1 x pR → jj_J p l e room_1 s m #[Value.ref b] below meth c 9 A Q (jj_X D A (((ho, .inl (cA 2, 1, .inr (.inl g))) :: (hd, .inl (cA 4, 1, .inr (.inr (.inr (.inl gd))))) :: pR) ++ pC)) (200 + 64 * (n + 1)) (20000 + 414 * (n + 1)) 1463 [(0, .ref b), (1, .ref h0), (2, .ref h1), (3, .ref ho), (4, .ref hd), (5, .int (nI (6 * n)))] []) (g : Nat → Int64) (gd : Nat → UInt64) (x : Nat) (pR pC : va_W) (hx : x ≤ 400) (hC : rw_C cA h0 x pC) (hR : rw_R cA n h1 x pR) : jj_J p l e room_1 s m #[Value.ref b] below meth c 9 A Q (jj_X D A (((ho, .inl (cA 2, 1, .inr (.inl g))) :: (hd, .inl (cA 4, 1, .inr (.inr (.inr (.inl gd))))) :: pR) ++ pC)) (200 + 64 * n) (20000 + 414 * n) 836 [(0, .ref b), (1, .ref h0), (2, .ref h1), (3, .ref ho), (4, .ref hd), (5, .int (nI (6 * n)))] [] := by
  have hxi : (nI x).toInt = (x : Int) := rl_ti (by omega)
  obtain ⟨K, a0, k1, k2, ok, f1, f2⟩ := hC
  refine jj_aload_n C dL_law_836 rfl ?_
  refine jj_aload_n C dL_law_837 rfl ?_
  refine jj_iload C dL_law_838 rfl ?_
  refine jj_iconst (v := 1) C dL_law_840 (by decide) ?_
  refine jj_iadd (v := nI (6 * n + 1)) C dL_law_841 (rl_addR (kn := 1) (by decide) rfl) ?_
  refine jj_xld C hX hbl hbA (k := 6 * n + 1) (by omega) hL dL_law_842 ?_
  refine jj_aload_n C dL_law_843 rfl ?_
  refine jj_iload C dL_law_844 rfl ?_
  refine jj_iconst (v := 2) C dL_law_846 (by decide) ?_
  refine jj_iadd (v := nI (6 * n + 2)) C dL_law_847 (rl_addR (kn := 2) (by decide) rfl) ?_
  refine jj_xld C hX hbl hbA (k := 6 * n + 2) (by omega) hL dL_law_848 ?_
  refine jj_aload_n C dL_law_849 rfl ?_
  refine tt_callSW (rest := []) C (lm_lot hl D cA ak h0 ho (xs (6 * n + 1)) (xs (6 * n + 2)) g k1 ok) [0] _ rfl (rz_pk1 _ _) (by decide) (rz_ndd _ _) rz_dis1 jw_dbfe3f67e7 jw_26add7bf06 jw_2ec6af59de jw_739cbf6537 jn_L_lot rfl (jj_le rfl) (jj_le rfl) (by show (200 + 64 * n) + 1 ≤ 603072; omega) (by show (20000 + 414 * n) + 6 ≤ 7211114; omega) (jj_le rfl) dL_law_850 rfl (fun _ _ _ hX => hX.elim) (fun rx pl r O => ?_)
  obtain ⟨K1, hx1, ok1, fr1, g1, v1, rfl, rfl⟩ := O
  refine tt_rot ?_
  have hC1 : rw_C cA h0 x pl := rw_C.go k1 k2 f1 f2 hx1 ok1 fr1 (by decide) (by decide)
  refine jj_istore C dL_law_853 (by decide) rfl ?_
  refine jj_aload_n C dL_law_855 rfl ?_
  refine jj_aload_n C dL_law_856 rfl ?_
  refine jj_iload C dL_law_857 rfl ?_
  refine jj_iconst (v := 1) C dL_law_859 (by decide) ?_
  refine jj_iadd (v := nI (6 * n + 1)) C dL_law_860 (rl_addR (kn := 1) (by decide) rfl) ?_
  refine jj_xld C hX hbl hbA (k := 6 * n + 1) (by omega) hL dL_law_861 ?_
  refine jj_aload_n C dL_law_862 rfl ?_
  refine jj_iload C dL_law_863 rfl ?_
  refine jj_iconst (v := 2) C dL_law_865 (by decide) ?_
  refine jj_iadd (v := nI (6 * n + 2)) C dL_law_866 (rl_addR (kn := 2) (by decide) rfl) ?_
  refine jj_xld C hX hbl hbA (k := 6 * n + 2) (by omega) hL dL_law_867 ?_
  obtain ⟨K2, aw, aa, at1, ai, af, ap, B, hk, ok2, hm, h13, hM, hB0, hBF⟩ := hR
  obtain ⟨f, P, n6, hc, hcp, h6, un6, hKK, hHP⟩ := hM
  refine tt_pools ?_
  obtain ⟨qd, gt, hqd⟩ := tt_recv (cx := []) ok2 hk.1 (by decide) rfl
  refine tt_callV (rest := []) C (rs_lot hl D cA ak n6 (xs (6 * n + 1)) (xs (6 * n + 2)) B (5000 * (n : Int)) f P hk.1 hk.2.1 hk.2.2.1 hk.2.2.2.1 hk.2.2.2.2.1 hk.2.2.2.2.2.1 hk.2.2.2.2.2.2 (by omega) (by omega) hKK hHP (by omega) (by omega) ⟨by omega, by omega⟩ ok2 hm hc hcp h6) [] _ rfl (rz_pkr _) (by decide) (rz_ndr _) rz_dis0 qd hqd rfl rfl jw_37ebce6b82 jw_e9f0d8d1c6 jw_d008ddc488 jw_f96c99f44d jw_e3c1929b38 jn_X11_lot rfl (jj_le rfl) (jj_le rfl) (by show (200 + 64 * n) + 1 + 0 ≤ 603072; omega) (by show (20000 + 414 * n) + 6 + 0 ≤ 7211114; omega) (jj_le rfl) dL_law_868 rfl (fun _ _ _ hX => hX.elim) (fun rx pm1 r O => ?_)
  obtain ⟨rfl, ok1, hf1, ha1, O⟩ := O
  refine tt_nilr ?_
  refine tt_pools ?_
  have hm_2 := hm.fr hf1 hk.1 (by decide)
  obtain ⟨hM_3, w_4, rfl⟩ := O
  have t_5 := hf1.at hk.1 (by decide) (by decide) h13
  refine jj_lstore C dL_law_871 (by decide) rfl ?_
  refine jj_goto (tgt := 1463) C dL_law_873 (by decide) ?_
  have hR9 : rw_R cA (n + 1) h1 x pm1 := ⟨K2, aw, aa, at1, ai, af, ap, _, hk, ok1, hm_2, t_5, hM_3.mono (Int.le_refl _) (by omega), (by omega), (by omega)⟩
  exact jj_loc [2, 3, 4, 5, 6, 7] rfl (jj_widen (by omega) (by omega) (hb g1 gd x pm1 pl hx hC1 hR9))

set_option maxHeartbeats 4000000 in
set_option maxRecDepth 100000 in
theorem law_c22 {p : Program} {l : Launch} {e : Env} {s : State} {m : MethodId} {below : List Frame} {meth : Method} {c : Code} (hl : l.stackTraces = false) {D : va_G} {cA : Nat → ClassId} {ak : (Nat → Nat) × (Nat → Nat)} {A : Nat → Prop} {b L : Nat} {xs : Nat → Int32} {Q : State → Prop} (C : jj_C p l s m #[Value.ref b] meth c code 9 R_law ret D cA A ak) (hX : va_X b L xs s s.heap) (hbl : b < s.heap.size) (hbA : ¬ A b) (hL : L ≤ 3072) {n h0 h1 ho hd : Nat} (hn : 6 * n + 6 ≤ L) (hb : ∀ (g : Nat → Int64) (gd : Nat → UInt64) (x : Nat) (pR pC : va_W), x ≤ 400 → rw_C cA h0 x pC → rw_R cA (n + 1) h1 x pR → jj_J p l e room_1 s m #[Value.ref b] below meth c 9 A Q (jj_X D A (((ho, .inl (cA 2, 1, .inr (.inl g))) :: (hd, .inl (cA 4, 1, .inr (.inr (.inr (.inl gd))))) :: pR) ++ pC)) (200 + 64 * (n + 1)) (20000 + 414 * (n + 1)) 1463 [(0, .ref b), (1, .ref h0), (2, .ref h1), (3, .ref ho), (4, .ref hd), (5, .int (nI (6 * n)))] []) (g : Nat → Int64) (gd : Nat → UInt64) (x : Nat) (pR pC : va_W) (hx : x ≤ 400) (hC : rw_C cA h0 x pC) (hR : rw_R cA n h1 x pR) : jj_J p l e room_1 s m #[Value.ref b] below meth c 9 A Q (jj_X D A (((ho, .inl (cA 2, 1, .inr (.inl g))) :: (hd, .inl (cA 4, 1, .inr (.inr (.inr (.inl gd))))) :: pR) ++ pC)) (200 + 64 * n) (20000 + 414 * n) 876 [(0, .ref b), (1, .ref h0), (2, .ref h1), (3, .ref ho), (4, .ref hd), (5, .int (nI (6 * n)))] [] := by
  have hxi : (nI x).toInt = (x : Int) := rl_ti (by omega)
  obtain ⟨K, a0, k1, k2, ok, f1, f2⟩ := hC
  refine jj_aload_n C dL_law_876 rfl ?_
  refine jj_aload_n C dL_law_877 rfl ?_
  refine jj_iload C dL_law_878 rfl ?_
  refine jj_iconst (v := 1) C dL_law_880 (by decide) ?_
  refine jj_iadd (v := nI (6 * n + 1)) C dL_law_881 (rl_addR (kn := 1) (by decide) rfl) ?_
  refine jj_xld C hX hbl hbA (k := 6 * n + 1) (by omega) hL dL_law_882 ?_
  refine jj_aload_n C dL_law_883 rfl ?_
  refine jj_iload C dL_law_884 rfl ?_
  refine jj_iconst (v := 2) C dL_law_886 (by decide) ?_
  refine jj_iadd (v := nI (6 * n + 2)) C dL_law_887 (rl_addR (kn := 2) (by decide) rfl) ?_
  refine jj_xld C hX hbl hbA (k := 6 * n + 2) (by omega) hL dL_law_888 ?_
  refine jj_aload_n C dL_law_889 rfl ?_
  refine tt_callSW (rest := []) C (lm_request hl D cA ak h0 ho (xs (6 * n + 1)) (xs (6 * n + 2)) g k1 ok) [0] _ rfl (rz_pk1 _ _) (by decide) (rz_ndd _ _) rz_dis1 jw_9ed79dfe77 jw_fb9a4a702d jw_2ec6af59de jw_eedf042953 jn_L_request rfl (jj_le rfl) (jj_le rfl) (by show (200 + 64 * n) + 2 ≤ 603072; omega) (by show (20000 + 414 * n) + 12 ≤ 7211114; omega) (jj_le rfl) dL_law_890 rfl (fun _ _ _ hX => hX.elim) (fun rx pl r O => ?_)
  obtain ⟨K1, hx1, ok1, fr1, g1, v1, rfl, rfl⟩ := O
  refine tt_rot ?_
  have hC1 : rw_C cA h0 x pl := rw_C.go k1 k2 f1 f2 hx1 ok1 fr1 (by decide) (by decide)
  refine jj_istore C dL_law_893 (by decide) rfl ?_
  refine jj_aload_n C dL_law_895 rfl ?_
  refine jj_aload_n C dL_law_896 rfl ?_
  refine jj_iload C dL_law_897 rfl ?_
  refine jj_iconst (v := 1) C dL_law_899 (by decide) ?_
  refine jj_iadd (v := nI (6 * n + 1)) C dL_law_900 (rl_addR (kn := 1) (by decide) rfl) ?_
  refine jj_xld C hX hbl hbA (k := 6 * n + 1) (by omega) hL dL_law_901 ?_
  refine jj_aload_n C dL_law_902 rfl ?_
  refine jj_iload C dL_law_903 rfl ?_
  refine jj_iconst (v := 2) C dL_law_905 (by decide) ?_
  refine jj_iadd (v := nI (6 * n + 2)) C dL_law_906 (rl_addR (kn := 2) (by decide) rfl) ?_
  refine jj_xld C hX hbl hbA (k := 6 * n + 2) (by omega) hL dL_law_907 ?_
  obtain ⟨K2, aw, aa, at1, ai, af, ap, B, hk, ok2, hm, h13, hM, hB0, hBF⟩ := hR
  obtain ⟨f, P, n6, hc, hcp, h6, un6, hKK, hHP⟩ := hM
  refine tt_pools ?_
  obtain ⟨qd, gt, hqd⟩ := tt_recv (cx := []) ok2 hk.1 (by decide) rfl
  refine tt_callV (rest := []) C (rs_request hl D cA ak n6 (xs (6 * n + 1)) (xs (6 * n + 2)) B (5000 * (n : Int)) f P hk.1 hk.2.1 hk.2.2.1 hk.2.2.2.1 hk.2.2.2.2.1 hk.2.2.2.2.2.1 hk.2.2.2.2.2.2 (by omega) (by omega) hKK hHP (by omega) (by omega) ⟨by omega, by omega⟩ ok2 hm hc hcp h6) [] _ rfl (rz_pkr _) (by decide) (rz_ndr _) rz_dis0 qd hqd rfl rfl jw_8e85e9d891 jw_60ac7aed83 jw_d64db4e3a6 jw_f96c99f44d jw_0cd805615d jn_X11_request rfl (jj_le rfl) (jj_le rfl) (by show (200 + 64 * n) + 2 + 0 ≤ 603072; omega) (by show (20000 + 414 * n) + 12 + 0 ≤ 7211114; omega) (jj_le rfl) dL_law_908 rfl (fun _ _ _ hX => hX.elim) (fun rx pm1 r O => ?_)
  obtain ⟨rfl, ok1, hf1, ha1, O⟩ := O
  refine tt_nilr ?_
  refine tt_pools ?_
  have hm_2 := hm.fr hf1 hk.1 (by decide)
  obtain ⟨hM_3, w_4, rfl⟩ := O
  have t_5 := hf1.at hk.1 (by decide) (by decide) h13
  refine jj_lstore C dL_law_911 (by decide) rfl ?_
  refine jj_goto (tgt := 1463) C dL_law_913 (by decide) ?_
  have hR9 : rw_R cA (n + 1) h1 x pm1 := ⟨K2, aw, aa, at1, ai, af, ap, _, hk, ok1, hm_2, t_5, hM_3.mono (Int.le_refl _) (by omega), (by omega), (by omega)⟩
  exact jj_loc [2, 3, 4, 5, 6, 7] rfl (jj_widen (by omega) (by omega) (hb g1 gd x pm1 pl hx hC1 hR9))

