set_option maxHeartbeats 4000000 in
set_option maxRecDepth 100000 in
theorem law_c24 {p : Program} {l : Launch} {e : Env} {s : State} {m : MethodId} {below : List Frame} {meth : Method} {c : Code} (hl : l.stackTraces = false) {D : va_G} {cA : Nat → ClassId} {ak : (Nat → Nat) × (Nat → Nat)} {A : Nat → Prop} {b L : Nat} {xs : Nat → Int32} {Q : State → Prop} (C : jj_C p l s m #[Value.ref b] meth c code 9 R_law ret D cA A ak) (hX : va_X b L xs s s.heap) (hbl : b < s.heap.size) (hbA : ¬ A b) (hL : L ≤ 3072) {n h0 h1 ho hd : Nat} (hn : 6 * n + 6 ≤ L) (hb : ∀ (g : Nat → Int64) (gd : Nat → UInt64) (x : Nat) (cz : Nat → Int) (e1 : Nat) (e2 : Int32) (pR pC : va_W), x ≤ 400 → rw_C cA h0 x cz e1 e2 pC → rw_R cA (n + 1) h1 x cz e1 e2 pR → jj_J p l e room_1 s m #[Value.ref b] below meth c 9 A Q (jj_X D A (((ho, .inl (cA 2, 1, .inr (.inl g))) :: (hd, .inl (cA 4, 1, .inr (.inr (.inr (.inl gd))))) :: pR) ++ pC)) (200 + 64 * (n + 1)) (20000 + 414 * (n + 1)) 1435 [(0, .ref b), (1, .ref h0), (2, .ref h1), (3, .ref ho), (4, .ref hd), (5, .int (nI (6 * n)))] []) (g : Nat → Int64) (gd : Nat → UInt64) (x : Nat) (cz : Nat → Int) (e1 : Nat) (e2 : Int32) (pR pC : va_W) (hx : x ≤ 400) (hC : rw_C cA h0 x cz e1 e2 pC) (hR : rw_R cA n h1 x cz e1 e2 pR) : jj_J p l e room_1 s m #[Value.ref b] below meth c 9 A Q (jj_X D A (((ho, .inl (cA 2, 1, .inr (.inl g))) :: (hd, .inl (cA 4, 1, .inr (.inr (.inr (.inl gd))))) :: pR) ++ pC)) (200 + 64 * n) (20000 + 414 * n) 916 [(0, .ref b), (1, .ref h0), (2, .ref h1), (3, .ref ho), (4, .ref hd), (5, .int (nI (6 * n)))] [] := by
  have hxi : (nI x).toInt = (x : Int) := rl_ti (by omega)
  obtain ⟨K, a0, a9, u, k1, k2, k9, ok, f1, f0, f2, hu, hcu, fe1, fe2⟩ := hC
  refine jj_aload_n C dL_law_916 rfl ?_
  refine jj_aload_n C dL_law_917 rfl ?_
  refine jj_iload C dL_law_918 rfl ?_
  refine jj_iconst (v := 1) C dL_law_920 (by decide) ?_
  refine jj_iadd (v := nI (6 * n + 1)) C dL_law_921 (rl_addR (kn := 1) (by decide) rfl) ?_
  refine jj_xld C hX hbl hbA (k := 6 * n + 1) (by omega) hL dL_law_922 ?_
  refine jj_aload_n C dL_law_923 rfl ?_
  refine jj_iload C dL_law_924 rfl ?_
  refine jj_iconst (v := 2) C dL_law_926 (by decide) ?_
  refine jj_iadd (v := nI (6 * n + 2)) C dL_law_927 (rl_addR (kn := 2) (by decide) rfl) ?_
  refine jj_xld C hX hbl hbA (k := 6 * n + 2) (by omega) hL dL_law_928 ?_
  refine jj_aload_n C dL_law_929 rfl ?_
  refine tt_callSW (rest := []) C (lm_holding hl D cA ak h0 ho (xs (6 * n + 1)) (xs (6 * n + 2)) g k1 ok) [0] _ rfl (rz_pk1 _ _) (by decide) (rz_ndd _ _) rz_dis1 jw_a31b642584 jw_01506bd7d1 jw_2ec6af59de jw_92c9fb3d9d jn_L_holding rfl (jj_le rfl) (jj_le rfl) (by show (200 + 64 * n) + 2 ≤ 603072; omega) (by show (20000 + 414 * n) + 12 ≤ 7211114; omega) (jj_le rfl) dL_law_930 rfl (fun _ _ _ hX => hX.elim) (fun rx pl r O => ?_)
  obtain ⟨K1, hx1, ok1, fr1, fa1, g1, v1, rfl, rfl⟩ := O
  refine tt_rot ?_
  have hC1 : rw_C cA h0 x cz e1 e2 pl := ⟨K1, a0, a9, _, hx1.kd k1 (by decide), hx1.kd k2 (by decide), hx1.kd k9 (by decide), ok1, (fr1.at k1 (by decide) (by decide) f1), (fr1.at k2 (by decide) (by decide) f0), (fr1.at k2 (by decide) (by decide) f2), (fa1.at k9 (by decide) (by decide) hu), hcu, (fr1.at k1 (by decide) (by decide) fe1), (fr1.at k1 (by decide) (by decide) fe2)⟩
  refine jj_istore C dL_law_933 (by decide) rfl ?_
  refine jj_aload_n C dL_law_935 rfl ?_
  refine jj_aload_n C dL_law_936 rfl ?_
  refine jj_iload C dL_law_937 rfl ?_
  refine jj_iconst (v := 1) C dL_law_939 (by decide) ?_
  refine jj_iadd (v := nI (6 * n + 1)) C dL_law_940 (rl_addR (kn := 1) (by decide) rfl) ?_
  refine jj_xld C hX hbl hbA (k := 6 * n + 1) (by omega) hL dL_law_941 ?_
  refine jj_aload_n C dL_law_942 rfl ?_
  refine jj_iload C dL_law_943 rfl ?_
  refine jj_iconst (v := 2) C dL_law_945 (by decide) ?_
  refine jj_iadd (v := nI (6 * n + 2)) C dL_law_946 (rl_addR (kn := 2) (by decide) rfl) ?_
  refine jj_xld C hX hbl hbA (k := 6 * n + 2) (by omega) hL dL_law_947 ?_
  obtain ⟨K2, aw, aa, at1, ai, af, ap, b9, B, um, hk, hk9, ok2, hm, h12, h13, hum, hcm, h17, h18, he3, hM, hB0, hBF⟩ := hR
  obtain ⟨f, P, n6, hc, hcp, h6, un6, hKK, hHP⟩ := hM
  refine tt_pools ?_
  obtain ⟨qd, gt, hqd⟩ := tt_recv (cx := []) ok2 hk.1 (by decide) rfl
  refine tt_callV (rest := []) C (rs_holding hl D cA ak n6 (xs (6 * n + 1)) (xs (6 * n + 2)) B (5000 * (n : Int)) f P hk.1 hk.2.1 hk.2.2.1 hk.2.2.2.1 hk.2.2.2.2.1 hk.2.2.2.2.2.1 hk.2.2.2.2.2.2 (by omega) (by omega) hKK hHP (by omega) (by omega) ⟨by omega, by omega⟩ ok2 hm hc hcp h6) [] _ rfl (rz_pkr _) (by decide) (rz_ndr _) rz_dis0 qd hqd rfl rfl jw_33207a9c5e jw_b7d08457fe jw_24eb30496e jw_f96c99f44d jw_34d9bcb912 jn_X11_holding rfl (jj_le rfl) (jj_le rfl) (by show (200 + 64 * n) + 2 + 0 ≤ 603072; omega) (by show (20000 + 414 * n) + 12 + 0 ≤ 7211114; omega) (jj_le rfl) dL_law_948 rfl (fun _ _ _ hX => hX.elim) (fun rx pm1 r O => ?_)
  obtain ⟨rfl, ok1, hf1, ha1, O⟩ := O
  refine tt_nilr ?_
  refine tt_pools ?_
  have hm_2 := hm.fr hf1 hk.1 (by decide)
  obtain ⟨hM_3, w_4, rfl⟩ := O
  refine jj_lstore C dL_law_951 (by decide) rfl ?_
  refine jj_goto (tgt := 1435) C dL_law_953 (by decide) ?_
  have hR9 : rw_R cA (n + 1) h1 x cz e1 e2 pm1 := ⟨K2, aw, aa, at1, ai, af, ap, b9, _, _, hk, hk9, ok1, hm_2, (hf1.at hk.1 (by decide) (by decide) h12), (hf1.at hk.1 (by decide) (by decide) h13), (ha1.at hk9 (by decide) (by decide) hum), hcm, (hf1.at hk.1 (by decide) (by decide) h17), (hf1.at hk.1 (by decide) (by decide) h18), he3, hM_3.mono (Int.le_refl _) (by omega), (by omega), (by omega)⟩
  exact jj_loc [2, 3, 4, 5, 6, 7] rfl (jj_widen (by omega) (by omega) (hb g1 gd x cz e1 e2 pm1 pl hx hC1 hR9))

set_option maxHeartbeats 4000000 in
set_option maxRecDepth 100000 in
theorem law_c25 {p : Program} {l : Launch} {e : Env} {s : State} {m : MethodId} {below : List Frame} {meth : Method} {c : Code} (hl : l.stackTraces = false) {D : va_G} {cA : Nat → ClassId} {ak : (Nat → Nat) × (Nat → Nat)} {A : Nat → Prop} {b L : Nat} {xs : Nat → Int32} {Q : State → Prop} (C : jj_C p l s m #[Value.ref b] meth c code 9 R_law ret D cA A ak) (hX : va_X b L xs s s.heap) (hbl : b < s.heap.size) (hbA : ¬ A b) (hL : L ≤ 3072) {n h0 h1 ho hd : Nat} (hn : 6 * n + 6 ≤ L) (hb : ∀ (g : Nat → Int64) (gd : Nat → UInt64) (x : Nat) (cz : Nat → Int) (e1 : Nat) (e2 : Int32) (pR pC : va_W), x ≤ 400 → rw_C cA h0 x cz e1 e2 pC → rw_R cA (n + 1) h1 x cz e1 e2 pR → jj_J p l e room_1 s m #[Value.ref b] below meth c 9 A Q (jj_X D A (((ho, .inl (cA 2, 1, .inr (.inl g))) :: (hd, .inl (cA 4, 1, .inr (.inr (.inr (.inl gd))))) :: pR) ++ pC)) (200 + 64 * (n + 1)) (20000 + 414 * (n + 1)) 1435 [(0, .ref b), (1, .ref h0), (2, .ref h1), (3, .ref ho), (4, .ref hd), (5, .int (nI (6 * n)))] []) (g : Nat → Int64) (gd : Nat → UInt64) (x : Nat) (cz : Nat → Int) (e1 : Nat) (e2 : Int32) (pR pC : va_W) (hx : x ≤ 400) (hC : rw_C cA h0 x cz e1 e2 pC) (hR : rw_R cA n h1 x cz e1 e2 pR) : jj_J p l e room_1 s m #[Value.ref b] below meth c 9 A Q (jj_X D A (((ho, .inl (cA 2, 1, .inr (.inl g))) :: (hd, .inl (cA 4, 1, .inr (.inr (.inr (.inl gd))))) :: pR) ++ pC)) (200 + 64 * n) (20000 + 414 * n) 956 [(0, .ref b), (1, .ref h0), (2, .ref h1), (3, .ref ho), (4, .ref hd), (5, .int (nI (6 * n)))] [] := by
  have hxi : (nI x).toInt = (x : Int) := rl_ti (by omega)
  obtain ⟨K, a0, a9, u, k1, k2, k9, ok, f1, f0, f2, hu, hcu, fe1, fe2⟩ := hC
  refine jj_aload_n C dL_law_956 rfl ?_
  refine jj_aload_n C dL_law_957 rfl ?_
  refine jj_iload C dL_law_958 rfl ?_
  refine jj_iconst (v := 1) C dL_law_960 (by decide) ?_
  refine jj_iadd (v := nI (6 * n + 1)) C dL_law_961 (rl_addR (kn := 1) (by decide) rfl) ?_
  refine jj_xld C hX hbl hbA (k := 6 * n + 1) (by omega) hL dL_law_962 ?_
  refine jj_aload_n C dL_law_963 rfl ?_
  refine tt_callSW (rest := []) C (lm_valueOf hl D cA ak h0 ho (xs (6 * n + 1)) g k1 ok) [0] _ rfl (rz_pk1 _ _) (by decide) (rz_ndd _ _) rz_dis1 jw_7be0a2aab0 jw_87624359c7 jw_2ec6af59de jw_fc5a5a0a46 jn_L_valueOf rfl (jj_le rfl) (jj_le rfl) (by show (200 + 64 * n) + 1 ≤ 603072; omega) (by show (20000 + 414 * n) + 6 ≤ 7211114; omega) (jj_le rfl) dL_law_964 rfl (fun _ _ _ hX => hX.elim) (fun rx pl r O => ?_)
  obtain ⟨K1, hx1, ok1, fr1, fa1, g1, v1, rfl, rfl⟩ := O
  refine tt_rot ?_
  have hC1 : rw_C cA h0 x cz e1 e2 pl := ⟨K1, a0, a9, _, hx1.kd k1 (by decide), hx1.kd k2 (by decide), hx1.kd k9 (by decide), ok1, (fr1.at k1 (by decide) (by decide) f1), (fr1.at k2 (by decide) (by decide) f0), (fr1.at k2 (by decide) (by decide) f2), (fa1.at k9 (by decide) (by decide) hu), hcu, (fr1.at k1 (by decide) (by decide) fe1), (fr1.at k1 (by decide) (by decide) fe2)⟩
  refine jj_istore C dL_law_967 (by decide) rfl ?_
  refine jj_aload_n C dL_law_969 rfl ?_
  refine jj_aload_n C dL_law_970 rfl ?_
  refine jj_iload C dL_law_971 rfl ?_
  refine jj_iconst (v := 1) C dL_law_973 (by decide) ?_
  refine jj_iadd (v := nI (6 * n + 1)) C dL_law_974 (rl_addR (kn := 1) (by decide) rfl) ?_
  refine jj_xld C hX hbl hbA (k := 6 * n + 1) (by omega) hL dL_law_975 ?_
  obtain ⟨K2, aw, aa, at1, ai, af, ap, b9, B, um, hk, hk9, ok2, hm, h12, h13, hum, hcm, h17, h18, he3, hM, hB0, hBF⟩ := hR
  obtain ⟨f, P, n6, hc, hcp, h6, un6, hKK, hHP⟩ := hM
  refine tt_pools ?_
  obtain ⟨qd, gt, hqd⟩ := tt_recv (cx := []) ok2 hk.1 (by decide) rfl
  refine tt_callV (rest := []) C (rs_valueOf hl D cA ak n6 (xs (6 * n + 1)) B (5000 * (n : Int)) f P hk.1 hk.2.1 hk.2.2.1 hk.2.2.2.1 hk.2.2.2.2.1 hk.2.2.2.2.2.1 hk.2.2.2.2.2.2 (by omega) (by omega) hKK hHP (by omega) (by omega) ⟨by omega, by omega⟩ ok2 hm hc hcp h6) [] _ rfl (rz_pkr _) (by decide) (rz_ndr _) rz_dis0 qd hqd rfl rfl jw_30d61970b6 jw_509fd234e5 jw_29019d3ce9 jw_f96c99f44d jw_037a127c4d jn_X11_valueOf rfl (jj_le rfl) (jj_le rfl) (by show (200 + 64 * n) + 1 + 0 ≤ 603072; omega) (by show (20000 + 414 * n) + 6 + 0 ≤ 7211114; omega) (jj_le rfl) dL_law_976 rfl (fun _ _ _ hX => hX.elim) (fun rx pm1 r O => ?_)
  obtain ⟨rfl, ok1, hf1, ha1, O⟩ := O
  refine tt_nilr ?_
  refine tt_pools ?_
  have hm_2 := hm.fr hf1 hk.1 (by decide)
  obtain ⟨hM_3, w_4, rfl⟩ := O
  refine jj_lstore C dL_law_979 (by decide) rfl ?_
  refine jj_goto (tgt := 1435) C dL_law_981 (by decide) ?_
  have hR9 : rw_R cA (n + 1) h1 x cz e1 e2 pm1 := ⟨K2, aw, aa, at1, ai, af, ap, b9, _, _, hk, hk9, ok1, hm_2, (hf1.at hk.1 (by decide) (by decide) h12), (hf1.at hk.1 (by decide) (by decide) h13), (ha1.at hk9 (by decide) (by decide) hum), hcm, (hf1.at hk.1 (by decide) (by decide) h17), (hf1.at hk.1 (by decide) (by decide) h18), he3, hM_3.mono (Int.le_refl _) (by omega), (by omega), (by omega)⟩
  exact jj_loc [2, 3, 4, 5, 6, 7] rfl (jj_widen (by omega) (by omega) (hb g1 gd x cz e1 e2 pm1 pl hx hC1 hR9))

set_option maxHeartbeats 4000000 in
set_option maxRecDepth 100000 in
theorem law_c26 {p : Program} {l : Launch} {e : Env} {s : State} {m : MethodId} {below : List Frame} {meth : Method} {c : Code} (hl : l.stackTraces = false) {D : va_G} {cA : Nat → ClassId} {ak : (Nat → Nat) × (Nat → Nat)} {A : Nat → Prop} {b L : Nat} {xs : Nat → Int32} {Q : State → Prop} (C : jj_C p l s m #[Value.ref b] meth c code 9 R_law ret D cA A ak) (hX : va_X b L xs s s.heap) (hbl : b < s.heap.size) (hbA : ¬ A b) (hL : L ≤ 3072) {n h0 h1 ho hd : Nat} (hn : 6 * n + 6 ≤ L) (hb : ∀ (g : Nat → Int64) (gd : Nat → UInt64) (x : Nat) (cz : Nat → Int) (e1 : Nat) (e2 : Int32) (pR pC : va_W), x ≤ 400 → rw_C cA h0 x cz e1 e2 pC → rw_R cA (n + 1) h1 x cz e1 e2 pR → jj_J p l e room_1 s m #[Value.ref b] below meth c 9 A Q (jj_X D A (((ho, .inl (cA 2, 1, .inr (.inl g))) :: (hd, .inl (cA 4, 1, .inr (.inr (.inr (.inl gd))))) :: pR) ++ pC)) (200 + 64 * (n + 1)) (20000 + 414 * (n + 1)) 1435 [(0, .ref b), (1, .ref h0), (2, .ref h1), (3, .ref ho), (4, .ref hd), (5, .int (nI (6 * n)))] []) (g : Nat → Int64) (gd : Nat → UInt64) (x : Nat) (cz : Nat → Int) (e1 : Nat) (e2 : Int32) (pR pC : va_W) (hx : x ≤ 400) (hC : rw_C cA h0 x cz e1 e2 pC) (hR : rw_R cA n h1 x cz e1 e2 pR) : jj_J p l e room_1 s m #[Value.ref b] below meth c 9 A Q (jj_X D A (((ho, .inl (cA 2, 1, .inr (.inl g))) :: (hd, .inl (cA 4, 1, .inr (.inr (.inr (.inl gd))))) :: pR) ++ pC)) (200 + 64 * n) (20000 + 414 * n) 984 [(0, .ref b), (1, .ref h0), (2, .ref h1), (3, .ref ho), (4, .ref hd), (5, .int (nI (6 * n)))] [] := by
  have hxi : (nI x).toInt = (x : Int) := rl_ti (by omega)
  obtain ⟨K, a0, a9, u, k1, k2, k9, ok, f1, f0, f2, hu, hcu, fe1, fe2⟩ := hC
  refine jj_aload_n C dL_law_984 rfl ?_
  refine jj_aload_n C dL_law_985 rfl ?_
  refine jj_iload C dL_law_986 rfl ?_
  refine jj_iconst (v := 1) C dL_law_988 (by decide) ?_
  refine jj_iadd (v := nI (6 * n + 1)) C dL_law_989 (rl_addR (kn := 1) (by decide) rfl) ?_
  refine jj_xld C hX hbl hbA (k := 6 * n + 1) (by omega) hL dL_law_990 ?_
  refine jj_aload_n C dL_law_991 rfl ?_
  refine tt_callSW (rest := []) C (lm_richest hl D cA ak h0 ho (xs (6 * n + 1)) g k1 ok) [0] _ rfl (rz_pk1 _ _) (by decide) (rz_ndd _ _) rz_dis1 jw_83120e33ee jw_deab19783f jw_2ec6af59de jw_342b2ea352 jn_L_richest rfl (jj_le rfl) (jj_le rfl) (by show (200 + 64 * n) + 1 ≤ 603072; omega) (by show (20000 + 414 * n) + 6 ≤ 7211114; omega) (jj_le rfl) dL_law_992 rfl (fun _ _ _ hX => hX.elim) (fun rx pl r O => ?_)
  obtain ⟨K1, hx1, ok1, fr1, fa1, g1, v1, rfl, rfl⟩ := O
  refine tt_rot ?_
  have hC1 : rw_C cA h0 x cz e1 e2 pl := ⟨K1, a0, a9, _, hx1.kd k1 (by decide), hx1.kd k2 (by decide), hx1.kd k9 (by decide), ok1, (fr1.at k1 (by decide) (by decide) f1), (fr1.at k2 (by decide) (by decide) f0), (fr1.at k2 (by decide) (by decide) f2), (fa1.at k9 (by decide) (by decide) hu), hcu, (fr1.at k1 (by decide) (by decide) fe1), (fr1.at k1 (by decide) (by decide) fe2)⟩
  refine jj_istore C dL_law_995 (by decide) rfl ?_
  refine jj_aload_n C dL_law_997 rfl ?_
  refine jj_aload_n C dL_law_998 rfl ?_
  refine jj_iload C dL_law_999 rfl ?_
  refine jj_iconst (v := 1) C dL_law_1001 (by decide) ?_
  refine jj_iadd (v := nI (6 * n + 1)) C dL_law_1002 (rl_addR (kn := 1) (by decide) rfl) ?_
  refine jj_xld C hX hbl hbA (k := 6 * n + 1) (by omega) hL dL_law_1003 ?_
  obtain ⟨K2, aw, aa, at1, ai, af, ap, b9, B, um, hk, hk9, ok2, hm, h12, h13, hum, hcm, h17, h18, he3, hM, hB0, hBF⟩ := hR
  obtain ⟨f, P, n6, hc, hcp, h6, un6, hKK, hHP⟩ := hM
  refine tt_pools ?_
  obtain ⟨qd, gt, hqd⟩ := tt_recv (cx := []) ok2 hk.1 (by decide) rfl
  refine tt_callV (rest := []) C (rs_richest hl D cA ak n6 (xs (6 * n + 1)) B (5000 * (n : Int)) f P hk.1 hk.2.1 hk.2.2.1 hk.2.2.2.1 hk.2.2.2.2.1 hk.2.2.2.2.2.1 hk.2.2.2.2.2.2 (by omega) (by omega) hKK hHP (by omega) (by omega) ⟨by omega, by omega⟩ ok2 hm hc hcp h6) [] _ rfl (rz_pkr _) (by decide) (rz_ndr _) rz_dis0 qd hqd rfl rfl jw_f9d156bbae jw_18aa5915f6 jw_588e556859 jw_f96c99f44d jw_fe6d989a04 jn_X11_richest rfl (jj_le rfl) (jj_le rfl) (by show (200 + 64 * n) + 1 + 0 ≤ 603072; omega) (by show (20000 + 414 * n) + 6 + 0 ≤ 7211114; omega) (jj_le rfl) dL_law_1004 rfl (fun _ _ _ hX => hX.elim) (fun rx pm1 r O => ?_)
  obtain ⟨rfl, ok1, hf1, ha1, O⟩ := O
  refine tt_nilr ?_
  refine tt_pools ?_
  have hm_2 := hm.fr hf1 hk.1 (by decide)
  obtain ⟨hM_3, w_4, rfl⟩ := O
  refine jj_istore C dL_law_1007 (by decide) rfl ?_
  refine jj_goto (tgt := 1435) C dL_law_1009 (by decide) ?_
  have hR9 : rw_R cA (n + 1) h1 x cz e1 e2 pm1 := ⟨K2, aw, aa, at1, ai, af, ap, b9, _, _, hk, hk9, ok1, hm_2, (hf1.at hk.1 (by decide) (by decide) h12), (hf1.at hk.1 (by decide) (by decide) h13), (ha1.at hk9 (by decide) (by decide) hum), hcm, (hf1.at hk.1 (by decide) (by decide) h17), (hf1.at hk.1 (by decide) (by decide) h18), he3, hM_3.mono (Int.le_refl _) (by omega), (by omega), (by omega)⟩
  exact jj_loc [2, 3, 4, 5, 6, 7] rfl (jj_widen (by omega) (by omega) (hb g1 gd x cz e1 e2 pm1 pl hx hC1 hR9))

set_option maxHeartbeats 4000000 in
set_option maxRecDepth 100000 in
theorem law_c27 {p : Program} {l : Launch} {e : Env} {s : State} {m : MethodId} {below : List Frame} {meth : Method} {c : Code} (hl : l.stackTraces = false) {D : va_G} {cA : Nat → ClassId} {ak : (Nat → Nat) × (Nat → Nat)} {A : Nat → Prop} {b L : Nat} {xs : Nat → Int32} {Q : State → Prop} (C : jj_C p l s m #[Value.ref b] meth c code 9 R_law ret D cA A ak) (hX : va_X b L xs s s.heap) (hbl : b < s.heap.size) (hbA : ¬ A b) (hL : L ≤ 3072) {n h0 h1 ho hd : Nat} (hn : 6 * n + 6 ≤ L) (hb : ∀ (g : Nat → Int64) (gd : Nat → UInt64) (x : Nat) (cz : Nat → Int) (e1 : Nat) (e2 : Int32) (pR pC : va_W), x ≤ 400 → rw_C cA h0 x cz e1 e2 pC → rw_R cA (n + 1) h1 x cz e1 e2 pR → jj_J p l e room_1 s m #[Value.ref b] below meth c 9 A Q (jj_X D A (((ho, .inl (cA 2, 1, .inr (.inl g))) :: (hd, .inl (cA 4, 1, .inr (.inr (.inr (.inl gd))))) :: pR) ++ pC)) (200 + 64 * (n + 1)) (20000 + 414 * (n + 1)) 1435 [(0, .ref b), (1, .ref h0), (2, .ref h1), (3, .ref ho), (4, .ref hd), (5, .int (nI (6 * n)))] []) (g : Nat → Int64) (gd : Nat → UInt64) (x : Nat) (cz : Nat → Int) (e1 : Nat) (e2 : Int32) (pR pC : va_W) (hx : x ≤ 400) (hC : rw_C cA h0 x cz e1 e2 pC) (hR : rw_R cA n h1 x cz e1 e2 pR) : jj_J p l e room_1 s m #[Value.ref b] below meth c 9 A Q (jj_X D A (((ho, .inl (cA 2, 1, .inr (.inl g))) :: (hd, .inl (cA 4, 1, .inr (.inr (.inr (.inl gd))))) :: pR) ++ pC)) (200 + 64 * n) (20000 + 414 * n) 1012 [(0, .ref b), (1, .ref h0), (2, .ref h1), (3, .ref ho), (4, .ref hd), (5, .int (nI (6 * n)))] [] := by
  have hxi : (nI x).toInt = (x : Int) := rl_ti (by omega)
  obtain ⟨K, a0, a9, u, k1, k2, k9, ok, f1, f0, f2, hu, hcu, fe1, fe2⟩ := hC
  refine jj_aload_n C dL_law_1012 rfl ?_
  refine jj_aload_n C dL_law_1013 rfl ?_
  refine jj_iload C dL_law_1014 rfl ?_
  refine jj_iconst (v := 1) C dL_law_1016 (by decide) ?_
  refine jj_iadd (v := nI (6 * n + 1)) C dL_law_1017 (rl_addR (kn := 1) (by decide) rfl) ?_
  refine jj_xld C hX hbl hbA (k := 6 * n + 1) (by omega) hL dL_law_1018 ?_
  refine jj_aload C dL_law_1019 rfl ?_
  refine tt_callSW (rest := []) C (lm_share hl D cA ak h0 hd (xs (6 * n + 1)) gd k1 ok) [1] _ rfl (rz_pk2 _ _ _) (by decide) (rz_nd2 _) rz_dis2 jw_c280a20b6b jw_b7bbe7cd78 jw_2ec6af59de jw_df05153913 jn_L_share rfl (jj_le rfl) (jj_le rfl) (by show (200 + 64 * n) + 2 ≤ 603072; omega) (by show (20000 + 414 * n) + 12 ≤ 7211114; omega) (jj_le rfl) dL_law_1021 rfl (fun _ _ _ hX => hX.elim) (fun rx pl r O => ?_)
  obtain ⟨K1, hx1, ok1, fr1, fa1, g1, v1, rfl, rfl⟩ := O
  refine tt_rot2 ?_
  have hC1 : rw_C cA h0 x cz e1 e2 pl := ⟨K1, a0, a9, _, hx1.kd k1 (by decide), hx1.kd k2 (by decide), hx1.kd k9 (by decide), ok1, (fr1.at k1 (by decide) (by decide) f1), (fr1.at k2 (by decide) (by decide) f0), (fr1.at k2 (by decide) (by decide) f2), (fa1.at k9 (by decide) (by decide) hu), hcu, (fr1.at k1 (by decide) (by decide) fe1), (fr1.at k1 (by decide) (by decide) fe2)⟩
  refine jj_istore C dL_law_1024 (by decide) rfl ?_
  refine jj_aload_n C dL_law_1026 rfl ?_
  refine jj_aload_n C dL_law_1027 rfl ?_
  refine jj_iload C dL_law_1028 rfl ?_
  refine jj_iconst (v := 1) C dL_law_1030 (by decide) ?_
  refine jj_iadd (v := nI (6 * n + 1)) C dL_law_1031 (rl_addR (kn := 1) (by decide) rfl) ?_
  refine jj_xld C hX hbl hbA (k := 6 * n + 1) (by omega) hL dL_law_1032 ?_
  obtain ⟨K2, aw, aa, at1, ai, af, ap, b9, B, um, hk, hk9, ok2, hm, h12, h13, hum, hcm, h17, h18, he3, hM, hB0, hBF⟩ := hR
  obtain ⟨f, P, n6, hc, hcp, h6, un6, hKK, hHP⟩ := hM
  refine tt_pools ?_
  obtain ⟨qd, gt, hqd⟩ := tt_recv (cx := []) ok2 hk.1 (by decide) rfl
  refine tt_callV (rest := []) C (rs_share hl D cA ak n6 (xs (6 * n + 1)) B (5000 * (n : Int)) f P hk.1 hk.2.1 hk.2.2.1 hk.2.2.2.1 hk.2.2.2.2.1 hk.2.2.2.2.2.1 hk.2.2.2.2.2.2 (by omega) (by omega) hKK hHP (by omega) (by omega) ⟨by omega, by omega⟩ ok2 hm hc hcp h6) [] _ rfl (rz_pkr _) (by decide) (rz_ndr _) rz_dis0 qd hqd rfl rfl jw_d8b03f5fa6 jw_27d824dfd9 jw_0f870368f4 jw_f96c99f44d jw_a47774e71a jn_X11_share rfl (jj_le rfl) (jj_le rfl) (by show (200 + 64 * n) + 2 + 0 ≤ 603072; omega) (by show (20000 + 414 * n) + 12 + 0 ≤ 7211114; omega) (jj_le rfl) dL_law_1033 rfl (fun _ _ _ hX => hX.elim) (fun rx pm1 r O => ?_)
  obtain ⟨rfl, ok1, hf1, ha1, O⟩ := O
  refine tt_nilr ?_
  refine tt_pools ?_
  have hm_2 := hm.fr hf1 hk.1 (by decide)
  obtain ⟨hM_3, w_4, rfl⟩ := O
  refine jj_dstore C dL_law_1036 (by decide) rfl ?_
  refine jj_goto (tgt := 1435) C dL_law_1038 (by decide) ?_
  have hR9 : rw_R cA (n + 1) h1 x cz e1 e2 pm1 := ⟨K2, aw, aa, at1, ai, af, ap, b9, _, _, hk, hk9, ok1, hm_2, (hf1.at hk.1 (by decide) (by decide) h12), (hf1.at hk.1 (by decide) (by decide) h13), (ha1.at hk9 (by decide) (by decide) hum), hcm, (hf1.at hk.1 (by decide) (by decide) h17), (hf1.at hk.1 (by decide) (by decide) h18), he3, hM_3.mono (Int.le_refl _) (by omega), (by omega), (by omega)⟩
  exact jj_loc [2, 3, 4, 5, 6, 7] rfl (jj_widen (by omega) (by omega) (hb g g1 x cz e1 e2 pm1 pl hx hC1 hR9))

set_option maxHeartbeats 4000000 in
set_option maxRecDepth 100000 in
theorem law_c28 {p : Program} {l : Launch} {e : Env} {s : State} {m : MethodId} {below : List Frame} {meth : Method} {c : Code} (hl : l.stackTraces = false) {D : va_G} {cA : Nat → ClassId} {ak : (Nat → Nat) × (Nat → Nat)} {A : Nat → Prop} {b L : Nat} {xs : Nat → Int32} {Q : State → Prop} (C : jj_C p l s m #[Value.ref b] meth c code 9 R_law ret D cA A ak) (hX : va_X b L xs s s.heap) (hbl : b < s.heap.size) (hbA : ¬ A b) (hL : L ≤ 3072) {n h0 h1 ho hd : Nat} (hn : 6 * n + 6 ≤ L) (hb : ∀ (g : Nat → Int64) (gd : Nat → UInt64) (x : Nat) (cz : Nat → Int) (e1 : Nat) (e2 : Int32) (pR pC : va_W), x ≤ 400 → rw_C cA h0 x cz e1 e2 pC → rw_R cA (n + 1) h1 x cz e1 e2 pR → jj_J p l e room_1 s m #[Value.ref b] below meth c 9 A Q (jj_X D A (((ho, .inl (cA 2, 1, .inr (.inl g))) :: (hd, .inl (cA 4, 1, .inr (.inr (.inr (.inl gd))))) :: pR) ++ pC)) (200 + 64 * (n + 1)) (20000 + 414 * (n + 1)) 1435 [(0, .ref b), (1, .ref h0), (2, .ref h1), (3, .ref ho), (4, .ref hd), (5, .int (nI (6 * n)))] []) (g : Nat → Int64) (gd : Nat → UInt64) (x : Nat) (cz : Nat → Int) (e1 : Nat) (e2 : Int32) (pR pC : va_W) (hx : x ≤ 400) (hC : rw_C cA h0 x cz e1 e2 pC) (hR : rw_R cA n h1 x cz e1 e2 pR) : jj_J p l e room_1 s m #[Value.ref b] below meth c 9 A Q (jj_X D A (((ho, .inl (cA 2, 1, .inr (.inl g))) :: (hd, .inl (cA 4, 1, .inr (.inr (.inr (.inl gd))))) :: pR) ++ pC)) (200 + 64 * n) (20000 + 414 * n) 1041 [(0, .ref b), (1, .ref h0), (2, .ref h1), (3, .ref ho), (4, .ref hd), (5, .int (nI (6 * n)))] [] := by
  have hxi : (nI x).toInt = (x : Int) := rl_ti (by omega)
  obtain ⟨K, a0, a9, u, k1, k2, k9, ok, f1, f0, f2, hu, hcu, fe1, fe2⟩ := hC
  refine jj_aload_n C dL_law_1041 rfl ?_
  obtain ⟨qc, gs, hqc⟩ := tt_recv (cx := []) ok k1 (by decide) rfl
  refine tt_callV (rest := []) C (tc_X10_requestedValue_1 hl D cA ak h0 k1 ok) [] _ rfl (rz_pkr _) (by decide) (rz_ndr _) rz_dis0 qc hqc rfl rfl jw_2ebeb3e8b8 jw_e1ae4dbb27 jw_f7ad888611 jw_6f6d707074 jw_4749a9c2bd jn_X10_requestedValue rfl (jj_le rfl) (jj_le rfl) (by show (200 + 64 * n) + 0 ≤ 603072; omega) (by show (20000 + 414 * n) + 0 ≤ 7211114; omega) (jj_le rfl) dL_law_1042 rfl (fun _ _ _ hX => hX.elim) (fun rx pl r O => ?_)
  obtain ⟨rfl, ok1, fr1, fa1, ⟨v1, rfl⟩⟩ := O
  refine tt_nilr ?_
  have hC1 : rw_C cA h0 x cz e1 e2 pl := ⟨K, a0, a9, _, (tt_ex.refl _).kd k1 (by decide), (tt_ex.refl _).kd k2 (by decide), (tt_ex.refl _).kd k9 (by decide), ok1, (fr1.at k1 (by decide) (by decide) f1), (fr1.at k2 (by decide) (by decide) f0), (fr1.at k2 (by decide) (by decide) f2), (fa1.at k9 (by decide) (by decide) hu), hcu, (fr1.at k1 (by decide) (by decide) fe1), (fr1.at k1 (by decide) (by decide) fe2)⟩
  refine jj_pop2 C dL_law_1045 rfl ?_
  refine jj_aload_n C dL_law_1046 rfl ?_
  obtain ⟨K2, aw, aa, at1, ai, af, ap, b9, B, um, hk, hk9, ok2, hm, h12, h13, hum, hcm, h17, h18, he3, hM, hB0, hBF⟩ := hR
  obtain ⟨f, P, n6, hc, hcp, h6, un6, hKK, hHP⟩ := hM
  refine tt_pools ?_
  obtain ⟨qd, gt, hqd⟩ := tt_recv (cx := []) ok2 hk.1 (by decide) rfl
  refine tt_callV (rest := []) C (rs_requestedValue hl D cA ak n6 B (5000 * (n : Int)) f P hk.1 hk.2.1 hk.2.2.1 hk.2.2.2.1 hk.2.2.2.2.1 hk.2.2.2.2.2.1 hk.2.2.2.2.2.2 (by omega) (by omega) hKK hHP (by omega) (by omega) ⟨by omega, by omega⟩ ok2 hm hc hcp h6) [] _ rfl (rz_pkr _) (by decide) (rz_ndr _) rz_dis0 qd hqd rfl rfl jw_36e68a3f2b jw_ad4a57c793 jw_6248614ffc jw_f96c99f44d jw_5a25ee769b jn_X11_requestedValue rfl (jj_le rfl) (jj_le rfl) (by show (200 + 64 * n) + 0 + 0 ≤ 603072; omega) (by show (20000 + 414 * n) + 0 + 0 ≤ 7211114; omega) (jj_le rfl) dL_law_1047 rfl (fun _ _ _ hX => hX.elim) (fun rx pm1 r O => ?_)
  obtain ⟨rfl, ok1, hf1, ha1, O⟩ := O
  refine tt_nilr ?_
  refine tt_pools ?_
  have hm_2 := hm.fr hf1 hk.1 (by decide)
  obtain ⟨hM_3, w_4, rfl⟩ := O
  refine jj_pop2 C dL_law_1050 rfl ?_
  refine jj_goto (tgt := 1435) C dL_law_1051 (by decide) ?_
  have hR9 : rw_R cA (n + 1) h1 x cz e1 e2 pm1 := ⟨K2, aw, aa, at1, ai, af, ap, b9, _, _, hk, hk9, ok1, hm_2, (hf1.at hk.1 (by decide) (by decide) h12), (hf1.at hk.1 (by decide) (by decide) h13), (ha1.at hk9 (by decide) (by decide) hum), hcm, (hf1.at hk.1 (by decide) (by decide) h17), (hf1.at hk.1 (by decide) (by decide) h18), he3, hM_3.mono (Int.le_refl _) (by omega), (by omega), (by omega)⟩
  exact jj_loc [0, 1, 2, 3, 4, 5] rfl (jj_widen (by omega) (by omega) (hb g gd x cz e1 e2 pm1 pl hx hC1 hR9))

set_option maxHeartbeats 4000000 in
set_option maxRecDepth 100000 in
theorem law_c29 {p : Program} {l : Launch} {e : Env} {s : State} {m : MethodId} {below : List Frame} {meth : Method} {c : Code} (hl : l.stackTraces = false) {D : va_G} {cA : Nat → ClassId} {ak : (Nat → Nat) × (Nat → Nat)} {A : Nat → Prop} {b L : Nat} {xs : Nat → Int32} {Q : State → Prop} (C : jj_C p l s m #[Value.ref b] meth c code 9 R_law ret D cA A ak) (hX : va_X b L xs s s.heap) (hbl : b < s.heap.size) (hbA : ¬ A b) (hL : L ≤ 3072) {n h0 h1 ho hd : Nat} (hn : 6 * n + 6 ≤ L) (hb : ∀ (g : Nat → Int64) (gd : Nat → UInt64) (x : Nat) (cz : Nat → Int) (e1 : Nat) (e2 : Int32) (pR pC : va_W), x ≤ 400 → rw_C cA h0 x cz e1 e2 pC → rw_R cA (n + 1) h1 x cz e1 e2 pR → jj_J p l e room_1 s m #[Value.ref b] below meth c 9 A Q (jj_X D A (((ho, .inl (cA 2, 1, .inr (.inl g))) :: (hd, .inl (cA 4, 1, .inr (.inr (.inr (.inl gd))))) :: pR) ++ pC)) (200 + 64 * (n + 1)) (20000 + 414 * (n + 1)) 1435 [(0, .ref b), (1, .ref h0), (2, .ref h1), (3, .ref ho), (4, .ref hd), (5, .int (nI (6 * n)))] []) (g : Nat → Int64) (gd : Nat → UInt64) (x : Nat) (cz : Nat → Int) (e1 : Nat) (e2 : Int32) (pR pC : va_W) (hx : x ≤ 400) (hC : rw_C cA h0 x cz e1 e2 pC) (hR : rw_R cA n h1 x cz e1 e2 pR) : jj_J p l e room_1 s m #[Value.ref b] below meth c 9 A Q (jj_X D A (((ho, .inl (cA 2, 1, .inr (.inl g))) :: (hd, .inl (cA 4, 1, .inr (.inr (.inr (.inl gd))))) :: pR) ++ pC)) (200 + 64 * n) (20000 + 414 * n) 1054 [(0, .ref b), (1, .ref h0), (2, .ref h1), (3, .ref ho), (4, .ref hd), (5, .int (nI (6 * n)))] [] := by
  have hxi : (nI x).toInt = (x : Int) := rl_ti (by omega)
  obtain ⟨K, a0, a9, u, k1, k2, k9, ok, f1, f0, f2, hu, hcu, fe1, fe2⟩ := hC
  refine jj_aload_n C dL_law_1054 rfl ?_
  obtain ⟨qc, gs, hqc⟩ := tt_recv (cx := []) ok k1 (by decide) rfl
  refine tt_callV (rest := []) C (tc_X10_gateLimit_1 hl D cA ak h0 k1 ok) [] _ rfl (rz_pkr _) (by decide) (rz_ndr _) rz_dis0 qc hqc rfl rfl jw_82caccdee6 jw_02075d6a91 jw_f3936275d4 jw_6f6d707074 jw_aaf3b437c8 jn_X10_gateLimit rfl (jj_le rfl) (jj_le rfl) (by show (200 + 64 * n) + 0 ≤ 603072; omega) (by show (20000 + 414 * n) + 0 ≤ 7211114; omega) (jj_le rfl) dL_law_1055 rfl (fun _ _ _ hX => hX.elim) (fun rx pl r O => ?_)
  obtain ⟨rfl, ok1, fr1, fa1, ⟨v1, rfl⟩⟩ := O
  refine tt_nilr ?_
  have hC1 : rw_C cA h0 x cz e1 e2 pl := ⟨K, a0, a9, _, (tt_ex.refl _).kd k1 (by decide), (tt_ex.refl _).kd k2 (by decide), (tt_ex.refl _).kd k9 (by decide), ok1, (fr1.at k1 (by decide) (by decide) f1), (fr1.at k2 (by decide) (by decide) f0), (fr1.at k2 (by decide) (by decide) f2), (fa1.at k9 (by decide) (by decide) hu), hcu, (fr1.at k1 (by decide) (by decide) fe1), (fr1.at k1 (by decide) (by decide) fe2)⟩
  refine jj_pop2 C dL_law_1058 rfl ?_
  refine jj_aload_n C dL_law_1059 rfl ?_
  obtain ⟨K2, aw, aa, at1, ai, af, ap, b9, B, um, hk, hk9, ok2, hm, h12, h13, hum, hcm, h17, h18, he3, hM, hB0, hBF⟩ := hR
  obtain ⟨f, P, n6, hc, hcp, h6, un6, hKK, hHP⟩ := hM
  refine tt_pools ?_
  obtain ⟨qd, gt, hqd⟩ := tt_recv (cx := []) ok2 hk.1 (by decide) rfl
  refine tt_callV (rest := []) C (rs_gateLimit hl D cA ak n6 B (5000 * (n : Int)) f P hk.1 hk.2.1 hk.2.2.1 hk.2.2.2.1 hk.2.2.2.2.1 hk.2.2.2.2.2.1 hk.2.2.2.2.2.2 (by omega) (by omega) hKK hHP (by omega) (by omega) ⟨by omega, by omega⟩ ok2 hm hc hcp h6) [] _ rfl (rz_pkr _) (by decide) (rz_ndr _) rz_dis0 qd hqd rfl rfl jw_9c52e4f619 jw_d3f2c59de5 jw_b6b11bf407 jw_f96c99f44d jw_9b6bfecdbd jn_X11_gateLimit rfl (jj_le rfl) (jj_le rfl) (by show (200 + 64 * n) + 0 + 0 ≤ 603072; omega) (by show (20000 + 414 * n) + 0 + 0 ≤ 7211114; omega) (jj_le rfl) dL_law_1060 rfl (fun _ _ _ hX => hX.elim) (fun rx pm1 r O => ?_)
  obtain ⟨rfl, ok1, hf1, ha1, O⟩ := O
  refine tt_nilr ?_
  refine tt_pools ?_
  have hm_2 := hm.fr hf1 hk.1 (by decide)
  obtain ⟨hM_3, w_4, rfl⟩ := O
  refine jj_pop2 C dL_law_1063 rfl ?_
  refine jj_goto (tgt := 1435) C dL_law_1064 (by decide) ?_
  have hR9 : rw_R cA (n + 1) h1 x cz e1 e2 pm1 := ⟨K2, aw, aa, at1, ai, af, ap, b9, _, _, hk, hk9, ok1, hm_2, (hf1.at hk.1 (by decide) (by decide) h12), (hf1.at hk.1 (by decide) (by decide) h13), (ha1.at hk9 (by decide) (by decide) hum), hcm, (hf1.at hk.1 (by decide) (by decide) h17), (hf1.at hk.1 (by decide) (by decide) h18), he3, hM_3.mono (Int.le_refl _) (by omega), (by omega), (by omega)⟩
  exact jj_loc [0, 1, 2, 3, 4, 5] rfl (jj_widen (by omega) (by omega) (hb g gd x cz e1 e2 pm1 pl hx hC1 hR9))

set_option maxHeartbeats 4000000 in
set_option maxRecDepth 100000 in
theorem law_c30 {p : Program} {l : Launch} {e : Env} {s : State} {m : MethodId} {below : List Frame} {meth : Method} {c : Code} (hl : l.stackTraces = false) {D : va_G} {cA : Nat → ClassId} {ak : (Nat → Nat) × (Nat → Nat)} {A : Nat → Prop} {b L : Nat} {xs : Nat → Int32} {Q : State → Prop} (C : jj_C p l s m #[Value.ref b] meth c code 9 R_law ret D cA A ak) (hX : va_X b L xs s s.heap) (hbl : b < s.heap.size) (hbA : ¬ A b) (hL : L ≤ 3072) {n h0 h1 ho hd : Nat} (hn : 6 * n + 6 ≤ L) (hb : ∀ (g : Nat → Int64) (gd : Nat → UInt64) (x : Nat) (cz : Nat → Int) (e1 : Nat) (e2 : Int32) (pR pC : va_W), x ≤ 400 → rw_C cA h0 x cz e1 e2 pC → rw_R cA (n + 1) h1 x cz e1 e2 pR → jj_J p l e room_1 s m #[Value.ref b] below meth c 9 A Q (jj_X D A (((ho, .inl (cA 2, 1, .inr (.inl g))) :: (hd, .inl (cA 4, 1, .inr (.inr (.inr (.inl gd))))) :: pR) ++ pC)) (200 + 64 * (n + 1)) (20000 + 414 * (n + 1)) 1435 [(0, .ref b), (1, .ref h0), (2, .ref h1), (3, .ref ho), (4, .ref hd), (5, .int (nI (6 * n)))] []) (g : Nat → Int64) (gd : Nat → UInt64) (x : Nat) (cz : Nat → Int) (e1 : Nat) (e2 : Int32) (pR pC : va_W) (hx : x ≤ 400) (hC : rw_C cA h0 x cz e1 e2 pC) (hR : rw_R cA n h1 x cz e1 e2 pR) : jj_J p l e room_1 s m #[Value.ref b] below meth c 9 A Q (jj_X D A (((ho, .inl (cA 2, 1, .inr (.inl g))) :: (hd, .inl (cA 4, 1, .inr (.inr (.inr (.inl gd))))) :: pR) ++ pC)) (200 + 64 * n) (20000 + 414 * n) 1067 [(0, .ref b), (1, .ref h0), (2, .ref h1), (3, .ref ho), (4, .ref hd), (5, .int (nI (6 * n)))] [] := by
  have hxi : (nI x).toInt = (x : Int) := rl_ti (by omega)
  obtain ⟨K, a0, a9, u, k1, k2, k9, ok, f1, f0, f2, hu, hcu, fe1, fe2⟩ := hC
  refine jj_aload_n C dL_law_1067 rfl ?_
  refine jj_aload_n C dL_law_1068 rfl ?_
  refine jj_iload C dL_law_1069 rfl ?_
  refine jj_iconst (v := 1) C dL_law_1071 (by decide) ?_
  refine jj_iadd (v := nI (6 * n + 1)) C dL_law_1072 (rl_addR (kn := 1) (by decide) rfl) ?_
  refine jj_xld C hX hbl hbA (k := 6 * n + 1) (by omega) hL dL_law_1073 ?_
  refine jj_aload_n C dL_law_1074 rfl ?_
  refine tt_callSW (rest := []) C (lm_wouldRedeem hl D cA ak h0 ho (xs (6 * n + 1)) g k1 ok) [0] _ rfl (rz_pk1 _ _) (by decide) (rz_ndd _ _) rz_dis1 jw_8faf5d7cb6 jw_4a6761012f jw_2ec6af59de jw_696dffebec jn_L_wouldRedeem rfl (jj_le rfl) (jj_le rfl) (by show (200 + 64 * n) + 1 ≤ 603072; omega) (by show (20000 + 414 * n) + 6 ≤ 7211114; omega) (jj_le rfl) dL_law_1075 rfl (fun _ _ _ hX => hX.elim) (fun rx pl r O => ?_)
  obtain ⟨K1, hx1, ok1, fr1, fa1, g1, v1, rfl, rfl⟩ := O
  refine tt_rot ?_
  have hC1 : rw_C cA h0 x cz e1 e2 pl := ⟨K1, a0, a9, _, hx1.kd k1 (by decide), hx1.kd k2 (by decide), hx1.kd k9 (by decide), ok1, (fr1.at k1 (by decide) (by decide) f1), (fr1.at k2 (by decide) (by decide) f0), (fr1.at k2 (by decide) (by decide) f2), (fa1.at k9 (by decide) (by decide) hu), hcu, (fr1.at k1 (by decide) (by decide) fe1), (fr1.at k1 (by decide) (by decide) fe2)⟩
  refine jj_istore C dL_law_1078 (by decide) rfl ?_
  refine jj_aload_n C dL_law_1080 rfl ?_
  refine jj_aload_n C dL_law_1081 rfl ?_
  refine jj_iload C dL_law_1082 rfl ?_
  refine jj_iconst (v := 1) C dL_law_1084 (by decide) ?_
  refine jj_iadd (v := nI (6 * n + 1)) C dL_law_1085 (rl_addR (kn := 1) (by decide) rfl) ?_
  refine jj_xld C hX hbl hbA (k := 6 * n + 1) (by omega) hL dL_law_1086 ?_
  obtain ⟨K2, aw, aa, at1, ai, af, ap, b9, B, um, hk, hk9, ok2, hm, h12, h13, hum, hcm, h17, h18, he3, hM, hB0, hBF⟩ := hR
  obtain ⟨f, P, n6, hc, hcp, h6, un6, hKK, hHP⟩ := hM
  refine tt_pools ?_
  obtain ⟨qd, gt, hqd⟩ := tt_recv (cx := []) ok2 hk.1 (by decide) rfl
  refine tt_callV (rest := []) C (rs_wouldRedeem hl D cA ak n6 (xs (6 * n + 1)) B (5000 * (n : Int)) f P hk.1 hk.2.1 hk.2.2.1 hk.2.2.2.1 hk.2.2.2.2.1 hk.2.2.2.2.2.1 hk.2.2.2.2.2.2 (by omega) (by omega) hKK hHP (by omega) (by omega) ⟨by omega, by omega⟩ ok2 hm hc hcp h6) [] _ rfl (rz_pkr _) (by decide) (rz_ndr _) rz_dis0 qd hqd rfl rfl jw_b464524eb7 jw_e1ec13eff9 jw_feb8a08ec4 jw_f96c99f44d jw_4c909afefb jn_X11_wouldRedeem rfl (jj_le rfl) (jj_le rfl) (by show (200 + 64 * n) + 1 + 0 ≤ 603072; omega) (by show (20000 + 414 * n) + 6 + 0 ≤ 7211114; omega) (jj_le rfl) dL_law_1087 rfl (fun _ _ _ hX => hX.elim) (fun rx pm1 r O => ?_)
  obtain ⟨rfl, ok1, hf1, ha1, O⟩ := O
  refine tt_nilr ?_
  refine tt_pools ?_
  have hm_2 := hm.fr hf1 hk.1 (by decide)
  obtain ⟨hM_3, w_4, rfl⟩ := O
  refine jj_lstore C dL_law_1090 (by decide) rfl ?_
  refine jj_goto (tgt := 1435) C dL_law_1092 (by decide) ?_
  have hR9 : rw_R cA (n + 1) h1 x cz e1 e2 pm1 := ⟨K2, aw, aa, at1, ai, af, ap, b9, _, _, hk, hk9, ok1, hm_2, (hf1.at hk.1 (by decide) (by decide) h12), (hf1.at hk.1 (by decide) (by decide) h13), (ha1.at hk9 (by decide) (by decide) hum), hcm, (hf1.at hk.1 (by decide) (by decide) h17), (hf1.at hk.1 (by decide) (by decide) h18), he3, hM_3.mono (Int.le_refl _) (by omega), (by omega), (by omega)⟩
  exact jj_loc [2, 3, 4, 5, 6, 7] rfl (jj_widen (by omega) (by omega) (hb g1 gd x cz e1 e2 pm1 pl hx hC1 hR9))

set_option maxHeartbeats 4000000 in
set_option maxRecDepth 100000 in
theorem law_c31 {p : Program} {l : Launch} {e : Env} {s : State} {m : MethodId} {below : List Frame} {meth : Method} {c : Code} (hl : l.stackTraces = false) {D : va_G} {cA : Nat → ClassId} {ak : (Nat → Nat) × (Nat → Nat)} {A : Nat → Prop} {b L : Nat} {xs : Nat → Int32} {Q : State → Prop} (C : jj_C p l s m #[Value.ref b] meth c code 9 R_law ret D cA A ak) (hX : va_X b L xs s s.heap) (hbl : b < s.heap.size) (hbA : ¬ A b) (hL : L ≤ 3072) {n h0 h1 ho hd : Nat} (hn : 6 * n + 6 ≤ L) (hb : ∀ (g : Nat → Int64) (gd : Nat → UInt64) (x : Nat) (cz : Nat → Int) (e1 : Nat) (e2 : Int32) (pR pC : va_W), x ≤ 400 → rw_C cA h0 x cz e1 e2 pC → rw_R cA (n + 1) h1 x cz e1 e2 pR → jj_J p l e room_1 s m #[Value.ref b] below meth c 9 A Q (jj_X D A (((ho, .inl (cA 2, 1, .inr (.inl g))) :: (hd, .inl (cA 4, 1, .inr (.inr (.inr (.inl gd))))) :: pR) ++ pC)) (200 + 64 * (n + 1)) (20000 + 414 * (n + 1)) 1435 [(0, .ref b), (1, .ref h0), (2, .ref h1), (3, .ref ho), (4, .ref hd), (5, .int (nI (6 * n)))] []) (g : Nat → Int64) (gd : Nat → UInt64) (x : Nat) (cz : Nat → Int) (e1 : Nat) (e2 : Int32) (pR pC : va_W) (hx : x ≤ 400) (hC : rw_C cA h0 x cz e1 e2 pC) (hR : rw_R cA n h1 x cz e1 e2 pR) : jj_J p l e room_1 s m #[Value.ref b] below meth c 9 A Q (jj_X D A (((ho, .inl (cA 2, 1, .inr (.inl g))) :: (hd, .inl (cA 4, 1, .inr (.inr (.inr (.inl gd))))) :: pR) ++ pC)) (200 + 64 * n) (20000 + 414 * n) 1095 [(0, .ref b), (1, .ref h0), (2, .ref h1), (3, .ref ho), (4, .ref hd), (5, .int (nI (6 * n)))] [] := by
  have hxi : (nI x).toInt = (x : Int) := rl_ti (by omega)
  obtain ⟨K, a0, a9, u, k1, k2, k9, ok, f1, f0, f2, hu, hcu, fe1, fe2⟩ := hC
  refine jj_aload_n C dL_law_1095 rfl ?_
  refine jj_aload_n C dL_law_1096 rfl ?_
  refine jj_iload C dL_law_1097 rfl ?_
  refine jj_iconst (v := 1) C dL_law_1099 (by decide) ?_
  refine jj_iadd (v := nI (6 * n + 1)) C dL_law_1100 (rl_addR (kn := 1) (by decide) rfl) ?_
  refine jj_xld C hX hbl hbA (k := 6 * n + 1) (by omega) hL dL_law_1101 ?_
  refine jj_aload_n C dL_law_1102 rfl ?_
  refine tt_callSW (rest := []) C (lm_dealsUntilDone hl D cA ak h0 ho (xs (6 * n + 1)) g k1 ok) [0] _ rfl (rz_pk1 _ _) (by decide) (rz_ndd _ _) rz_dis1 jw_6c8f960d0e jw_f6b5d400f6 jw_2ec6af59de jw_4ddfc04859 jn_L_dealsUntilDone rfl (jj_le rfl) (jj_le rfl) (by show (200 + 64 * n) + 1 ≤ 603072; omega) (by show (20000 + 414 * n) + 6 ≤ 7211114; omega) (jj_le rfl) dL_law_1103 rfl (fun _ _ _ hX => hX.elim) (fun rx pl r O => ?_)
  obtain ⟨K1, hx1, ok1, fr1, fa1, g1, v1, rfl, rfl⟩ := O
  refine tt_rot ?_
  have hC1 : rw_C cA h0 x cz e1 e2 pl := ⟨K1, a0, a9, _, hx1.kd k1 (by decide), hx1.kd k2 (by decide), hx1.kd k9 (by decide), ok1, (fr1.at k1 (by decide) (by decide) f1), (fr1.at k2 (by decide) (by decide) f0), (fr1.at k2 (by decide) (by decide) f2), (fa1.at k9 (by decide) (by decide) hu), hcu, (fr1.at k1 (by decide) (by decide) fe1), (fr1.at k1 (by decide) (by decide) fe2)⟩
  refine jj_istore C dL_law_1106 (by decide) rfl ?_
  refine jj_aload_n C dL_law_1108 rfl ?_
  refine jj_aload_n C dL_law_1109 rfl ?_
  refine jj_iload C dL_law_1110 rfl ?_
  refine jj_iconst (v := 1) C dL_law_1112 (by decide) ?_
  refine jj_iadd (v := nI (6 * n + 1)) C dL_law_1113 (rl_addR (kn := 1) (by decide) rfl) ?_
  refine jj_xld C hX hbl hbA (k := 6 * n + 1) (by omega) hL dL_law_1114 ?_
  obtain ⟨K2, aw, aa, at1, ai, af, ap, b9, B, um, hk, hk9, ok2, hm, h12, h13, hum, hcm, h17, h18, he3, hM, hB0, hBF⟩ := hR
  obtain ⟨f, P, n6, hc, hcp, h6, un6, hKK, hHP⟩ := hM
  refine tt_pools ?_
  obtain ⟨qd, gt, hqd⟩ := tt_recv (cx := []) ok2 hk.1 (by decide) rfl
  refine tt_callV (rest := []) C (rs_dealsUntilDone hl D cA ak n6 (xs (6 * n + 1)) B (5000 * (n : Int)) f P hk.1 hk.2.1 hk.2.2.1 hk.2.2.2.1 hk.2.2.2.2.1 hk.2.2.2.2.2.1 hk.2.2.2.2.2.2 (by omega) (by omega) hKK hHP (by omega) (by omega) ⟨by omega, by omega⟩ ok2 hm hc hcp h6) [] _ rfl (rz_pkr _) (by decide) (rz_ndr _) rz_dis0 qd hqd rfl rfl jw_ce5c526ff8 jw_39cc3a5b05 jw_66228c1ca3 jw_f96c99f44d jw_30e5bbf5a4 jn_X11_dealsUntilDone rfl (jj_le rfl) (jj_le rfl) (by show (200 + 64 * n) + 1 + 0 ≤ 603072; omega) (by show (20000 + 414 * n) + 6 + 0 ≤ 7211114; omega) (jj_le rfl) dL_law_1115 rfl (fun _ _ _ hX => hX.elim) (fun rx pm1 r O => ?_)
  obtain ⟨rfl, ok1, hf1, ha1, O⟩ := O
  refine tt_nilr ?_
  refine tt_pools ?_
  have hm_2 := hm.fr hf1 hk.1 (by decide)
  obtain ⟨hM_3, w_4, rfl⟩ := O
  refine jj_istore C dL_law_1118 (by decide) rfl ?_
  refine jj_goto (tgt := 1435) C dL_law_1120 (by decide) ?_
  have hR9 : rw_R cA (n + 1) h1 x cz e1 e2 pm1 := ⟨K2, aw, aa, at1, ai, af, ap, b9, _, _, hk, hk9, ok1, hm_2, (hf1.at hk.1 (by decide) (by decide) h12), (hf1.at hk.1 (by decide) (by decide) h13), (ha1.at hk9 (by decide) (by decide) hum), hcm, (hf1.at hk.1 (by decide) (by decide) h17), (hf1.at hk.1 (by decide) (by decide) h18), he3, hM_3.mono (Int.le_refl _) (by omega), (by omega), (by omega)⟩
  exact jj_loc [2, 3, 4, 5, 6, 7] rfl (jj_widen (by omega) (by omega) (hb g1 gd x cz e1 e2 pm1 pl hx hC1 hR9))

set_option maxHeartbeats 4000000 in
set_option maxRecDepth 100000 in
theorem law_c32 {p : Program} {l : Launch} {e : Env} {s : State} {m : MethodId} {below : List Frame} {meth : Method} {c : Code} (hl : l.stackTraces = false) {D : va_G} {cA : Nat → ClassId} {ak : (Nat → Nat) × (Nat → Nat)} {A : Nat → Prop} {b L : Nat} {xs : Nat → Int32} {Q : State → Prop} (C : jj_C p l s m #[Value.ref b] meth c code 9 R_law ret D cA A ak) (hX : va_X b L xs s s.heap) (hbl : b < s.heap.size) (hbA : ¬ A b) (hL : L ≤ 3072) {n h0 h1 ho hd : Nat} (hn : 6 * n + 6 ≤ L) (hb : ∀ (g : Nat → Int64) (gd : Nat → UInt64) (x : Nat) (cz : Nat → Int) (e1 : Nat) (e2 : Int32) (pR pC : va_W), x ≤ 400 → rw_C cA h0 x cz e1 e2 pC → rw_R cA (n + 1) h1 x cz e1 e2 pR → jj_J p l e room_1 s m #[Value.ref b] below meth c 9 A Q (jj_X D A (((ho, .inl (cA 2, 1, .inr (.inl g))) :: (hd, .inl (cA 4, 1, .inr (.inr (.inr (.inl gd))))) :: pR) ++ pC)) (200 + 64 * (n + 1)) (20000 + 414 * (n + 1)) 1435 [(0, .ref b), (1, .ref h0), (2, .ref h1), (3, .ref ho), (4, .ref hd), (5, .int (nI (6 * n)))] []) (g : Nat → Int64) (gd : Nat → UInt64) (x : Nat) (cz : Nat → Int) (e1 : Nat) (e2 : Int32) (pR pC : va_W) (hx : x ≤ 400) (hC : rw_C cA h0 x cz e1 e2 pC) (hR : rw_R cA n h1 x cz e1 e2 pR) : jj_J p l e room_1 s m #[Value.ref b] below meth c 9 A Q (jj_X D A (((ho, .inl (cA 2, 1, .inr (.inl g))) :: (hd, .inl (cA 4, 1, .inr (.inr (.inr (.inl gd))))) :: pR) ++ pC)) (200 + 64 * n) (20000 + 414 * n) 1123 [(0, .ref b), (1, .ref h0), (2, .ref h1), (3, .ref ho), (4, .ref hd), (5, .int (nI (6 * n)))] [] := by
  have hxi : (nI x).toInt = (x : Int) := rl_ti (by omega)
  obtain ⟨K, a0, a9, u, k1, k2, k9, ok, f1, f0, f2, hu, hcu, fe1, fe2⟩ := hC
  refine jj_aload_n C dL_law_1123 rfl ?_
  refine jj_aload_n C dL_law_1124 rfl ?_
  refine jj_iload C dL_law_1125 rfl ?_
  refine jj_iconst (v := 1) C dL_law_1127 (by decide) ?_
  refine jj_iadd (v := nI (6 * n + 1)) C dL_law_1128 (rl_addR (kn := 1) (by decide) rfl) ?_
  refine jj_xld C hX hbl hbA (k := 6 * n + 1) (by omega) hL dL_law_1129 ?_
  refine jj_aload_n C dL_law_1130 rfl ?_
  refine tt_callSW (rest := []) C (lm_feesIf hl D cA ak h0 ho (xs (6 * n + 1)) g k1 ok) [0] _ rfl (rz_pk1 _ _) (by decide) (rz_ndd _ _) rz_dis1 jw_dc7a8c0471 jw_af9b408a86 jw_2ec6af59de jw_5cefa823e7 jn_L_feesIf rfl (jj_le rfl) (jj_le rfl) (by show (200 + 64 * n) + 1 ≤ 603072; omega) (by show (20000 + 414 * n) + 6 ≤ 7211114; omega) (jj_le rfl) dL_law_1131 rfl (fun _ _ _ hX => hX.elim) (fun rx pl r O => ?_)
  obtain ⟨K1, hx1, ok1, fr1, fa1, g1, v1, rfl, rfl⟩ := O
  refine tt_rot ?_
  have hC1 : rw_C cA h0 x cz e1 e2 pl := ⟨K1, a0, a9, _, hx1.kd k1 (by decide), hx1.kd k2 (by decide), hx1.kd k9 (by decide), ok1, (fr1.at k1 (by decide) (by decide) f1), (fr1.at k2 (by decide) (by decide) f0), (fr1.at k2 (by decide) (by decide) f2), (fa1.at k9 (by decide) (by decide) hu), hcu, (fr1.at k1 (by decide) (by decide) fe1), (fr1.at k1 (by decide) (by decide) fe2)⟩
  refine jj_istore C dL_law_1134 (by decide) rfl ?_
  refine jj_aload_n C dL_law_1136 rfl ?_
  refine jj_aload_n C dL_law_1137 rfl ?_
  refine jj_iload C dL_law_1138 rfl ?_
  refine jj_iconst (v := 1) C dL_law_1140 (by decide) ?_
  refine jj_iadd (v := nI (6 * n + 1)) C dL_law_1141 (rl_addR (kn := 1) (by decide) rfl) ?_
  refine jj_xld C hX hbl hbA (k := 6 * n + 1) (by omega) hL dL_law_1142 ?_
  obtain ⟨K2, aw, aa, at1, ai, af, ap, b9, B, um, hk, hk9, ok2, hm, h12, h13, hum, hcm, h17, h18, he3, hM, hB0, hBF⟩ := hR
  obtain ⟨f, P, n6, hc, hcp, h6, un6, hKK, hHP⟩ := hM
  refine tt_pools ?_
  obtain ⟨qd, gt, hqd⟩ := tt_recv (cx := []) ok2 hk.1 (by decide) rfl
  refine tt_callV (rest := []) C (rs_feesIf hl D cA ak n6 (xs (6 * n + 1)) B (5000 * (n : Int)) f P hk.1 hk.2.1 hk.2.2.1 hk.2.2.2.1 hk.2.2.2.2.1 hk.2.2.2.2.2.1 hk.2.2.2.2.2.2 (by omega) (by omega) hKK hHP (by omega) (by omega) ⟨by omega, by omega⟩ ok2 hm hc hcp h6) [] _ rfl (rz_pkr _) (by decide) (rz_ndr _) rz_dis0 qd hqd rfl rfl jw_5f78895486 jw_bcddac6a99 jw_d6a629e1df jw_f96c99f44d jw_c07f5da8d0 jn_X11_feesIf rfl (jj_le rfl) (jj_le rfl) (by show (200 + 64 * n) + 1 + 0 ≤ 603072; omega) (by show (20000 + 414 * n) + 6 + 0 ≤ 7211114; omega) (jj_le rfl) dL_law_1143 rfl (fun _ _ _ hX => hX.elim) (fun rx pm1 r O => ?_)
  obtain ⟨rfl, ok1, hf1, ha1, O⟩ := O
  refine tt_nilr ?_
  refine tt_pools ?_
  have hm_2 := hm.fr hf1 hk.1 (by decide)
  obtain ⟨hM_3, w_4, rfl⟩ := O
  refine jj_lstore C dL_law_1146 (by decide) rfl ?_
  refine jj_goto (tgt := 1435) C dL_law_1148 (by decide) ?_
  have hR9 : rw_R cA (n + 1) h1 x cz e1 e2 pm1 := ⟨K2, aw, aa, at1, ai, af, ap, b9, _, _, hk, hk9, ok1, hm_2, (hf1.at hk.1 (by decide) (by decide) h12), (hf1.at hk.1 (by decide) (by decide) h13), (ha1.at hk9 (by decide) (by decide) hum), hcm, (hf1.at hk.1 (by decide) (by decide) h17), (hf1.at hk.1 (by decide) (by decide) h18), he3, hM_3.mono (Int.le_refl _) (by omega), (by omega), (by omega)⟩
  exact jj_loc [2, 3, 4, 5, 6, 7] rfl (jj_widen (by omega) (by omega) (hb g1 gd x cz e1 e2 pm1 pl hx hC1 hR9))

set_option maxHeartbeats 4000000 in
set_option maxRecDepth 100000 in
theorem law_c33 {p : Program} {l : Launch} {e : Env} {s : State} {m : MethodId} {below : List Frame} {meth : Method} {c : Code} (hl : l.stackTraces = false) {D : va_G} {cA : Nat → ClassId} {ak : (Nat → Nat) × (Nat → Nat)} {A : Nat → Prop} {b L : Nat} {xs : Nat → Int32} {Q : State → Prop} (C : jj_C p l s m #[Value.ref b] meth c code 9 R_law ret D cA A ak) (hX : va_X b L xs s s.heap) (hbl : b < s.heap.size) (hbA : ¬ A b) (hL : L ≤ 3072) {n h0 h1 ho hd : Nat} (hn : 6 * n + 6 ≤ L) (hb : ∀ (g : Nat → Int64) (gd : Nat → UInt64) (x : Nat) (cz : Nat → Int) (e1 : Nat) (e2 : Int32) (pR pC : va_W), x ≤ 400 → rw_C cA h0 x cz e1 e2 pC → rw_R cA (n + 1) h1 x cz e1 e2 pR → jj_J p l e room_1 s m #[Value.ref b] below meth c 9 A Q (jj_X D A (((ho, .inl (cA 2, 1, .inr (.inl g))) :: (hd, .inl (cA 4, 1, .inr (.inr (.inr (.inl gd))))) :: pR) ++ pC)) (200 + 64 * (n + 1)) (20000 + 414 * (n + 1)) 1435 [(0, .ref b), (1, .ref h0), (2, .ref h1), (3, .ref ho), (4, .ref hd), (5, .int (nI (6 * n)))] []) (g : Nat → Int64) (gd : Nat → UInt64) (x : Nat) (cz : Nat → Int) (e1 : Nat) (e2 : Int32) (pR pC : va_W) (hx : x ≤ 400) (hC : rw_C cA h0 x cz e1 e2 pC) (hR : rw_R cA n h1 x cz e1 e2 pR) : jj_J p l e room_1 s m #[Value.ref b] below meth c 9 A Q (jj_X D A (((ho, .inl (cA 2, 1, .inr (.inl g))) :: (hd, .inl (cA 4, 1, .inr (.inr (.inr (.inl gd))))) :: pR) ++ pC)) (200 + 64 * n) (20000 + 414 * n) 1151 [(0, .ref b), (1, .ref h0), (2, .ref h1), (3, .ref ho), (4, .ref hd), (5, .int (nI (6 * n)))] [] := by
  have hxi : (nI x).toInt = (x : Int) := rl_ti (by omega)
  obtain ⟨K, a0, a9, u, k1, k2, k9, ok, f1, f0, f2, hu, hcu, fe1, fe2⟩ := hC
  refine jj_aload_n C dL_law_1151 rfl ?_
  refine jj_aload_n C dL_law_1152 rfl ?_
  refine jj_iload C dL_law_1153 rfl ?_
  refine jj_iconst (v := 1) C dL_law_1155 (by decide) ?_
  refine jj_iadd (v := nI (6 * n + 1)) C dL_law_1156 (rl_addR (kn := 1) (by decide) rfl) ?_
  refine jj_xld C hX hbl hbA (k := 6 * n + 1) (by omega) hL dL_law_1157 ?_
  refine jj_aload_n C dL_law_1158 rfl ?_
  refine tt_callSW (rest := []) C (lm_breakEven hl D cA ak h0 ho (xs (6 * n + 1)) g k1 ok) [0] _ rfl (rz_pk1 _ _) (by decide) (rz_ndd _ _) rz_dis1 jw_7fdca35676 jw_03900eca1a jw_2ec6af59de jw_1c01a1aed3 jn_L_breakEven rfl (jj_le rfl) (jj_le rfl) (by show (200 + 64 * n) + 2 ≤ 603072; omega) (by show (20000 + 414 * n) + 12 ≤ 7211114; omega) (jj_le rfl) dL_law_1159 rfl (fun _ _ _ hX => hX.elim) (fun rx pl r O => ?_)
  obtain ⟨K1, hx1, ok1, fr1, fa1, g1, v1, rfl, rfl⟩ := O
  refine tt_rot ?_
  have hC1 : rw_C cA h0 x cz e1 e2 pl := ⟨K1, a0, a9, _, hx1.kd k1 (by decide), hx1.kd k2 (by decide), hx1.kd k9 (by decide), ok1, (fr1.at k1 (by decide) (by decide) f1), (fr1.at k2 (by decide) (by decide) f0), (fr1.at k2 (by decide) (by decide) f2), (fa1.at k9 (by decide) (by decide) hu), hcu, (fr1.at k1 (by decide) (by decide) fe1), (fr1.at k1 (by decide) (by decide) fe2)⟩
  refine jj_istore C dL_law_1162 (by decide) rfl ?_
  refine jj_aload_n C dL_law_1164 rfl ?_
  refine jj_aload_n C dL_law_1165 rfl ?_
  refine jj_iload C dL_law_1166 rfl ?_
  refine jj_iconst (v := 1) C dL_law_1168 (by decide) ?_
  refine jj_iadd (v := nI (6 * n + 1)) C dL_law_1169 (rl_addR (kn := 1) (by decide) rfl) ?_
  refine jj_xld C hX hbl hbA (k := 6 * n + 1) (by omega) hL dL_law_1170 ?_
  obtain ⟨K2, aw, aa, at1, ai, af, ap, b9, B, um, hk, hk9, ok2, hm, h12, h13, hum, hcm, h17, h18, he3, hM, hB0, hBF⟩ := hR
  obtain ⟨f, P, n6, hc, hcp, h6, un6, hKK, hHP⟩ := hM
  refine tt_pools ?_
  obtain ⟨qd, gt, hqd⟩ := tt_recv (cx := []) ok2 hk.1 (by decide) rfl
  refine tt_callV (rest := []) C (rs_breakEven hl D cA ak n6 (xs (6 * n + 1)) B (5000 * (n : Int)) f P hk.1 hk.2.1 hk.2.2.1 hk.2.2.2.1 hk.2.2.2.2.1 hk.2.2.2.2.2.1 hk.2.2.2.2.2.2 (by omega) (by omega) hKK hHP (by omega) (by omega) ⟨by omega, by omega⟩ ok2 hm hc hcp h6) [] _ rfl (rz_pkr _) (by decide) (rz_ndr _) rz_dis0 qd hqd rfl rfl jw_66f3150d7f jw_69c099d540 jw_367bfa6b55 jw_f96c99f44d jw_1f748e3716 jn_X11_breakEven rfl (jj_le rfl) (jj_le rfl) (by show (200 + 64 * n) + 2 + 0 ≤ 603072; omega) (by show (20000 + 414 * n) + 12 + 0 ≤ 7211114; omega) (jj_le rfl) dL_law_1171 rfl (fun _ _ _ hX => hX.elim) (fun rx pm1 r O => ?_)
  obtain ⟨rfl, ok1, hf1, ha1, O⟩ := O
  refine tt_nilr ?_
  refine tt_pools ?_
  have hm_2 := hm.fr hf1 hk.1 (by decide)
  obtain ⟨hM_3, w_4, rfl⟩ := O
  refine jj_istore C dL_law_1174 (by decide) rfl ?_
  refine jj_goto (tgt := 1435) C dL_law_1176 (by decide) ?_
  have hR9 : rw_R cA (n + 1) h1 x cz e1 e2 pm1 := ⟨K2, aw, aa, at1, ai, af, ap, b9, _, _, hk, hk9, ok1, hm_2, (hf1.at hk.1 (by decide) (by decide) h12), (hf1.at hk.1 (by decide) (by decide) h13), (ha1.at hk9 (by decide) (by decide) hum), hcm, (hf1.at hk.1 (by decide) (by decide) h17), (hf1.at hk.1 (by decide) (by decide) h18), he3, hM_3.mono (Int.le_refl _) (by omega), (by omega), (by omega)⟩
  exact jj_loc [2, 3, 4, 5, 6, 7] rfl (jj_widen (by omega) (by omega) (hb g1 gd x cz e1 e2 pm1 pl hx hC1 hR9))

set_option maxHeartbeats 4000000 in
set_option maxRecDepth 100000 in
theorem law_c34 {p : Program} {l : Launch} {e : Env} {s : State} {m : MethodId} {below : List Frame} {meth : Method} {c : Code} (hl : l.stackTraces = false) {D : va_G} {cA : Nat → ClassId} {ak : (Nat → Nat) × (Nat → Nat)} {A : Nat → Prop} {b L : Nat} {xs : Nat → Int32} {Q : State → Prop} (C : jj_C p l s m #[Value.ref b] meth c code 9 R_law ret D cA A ak) (hX : va_X b L xs s s.heap) (hbl : b < s.heap.size) (hbA : ¬ A b) (hL : L ≤ 3072) {n h0 h1 ho hd : Nat} (hn : 6 * n + 6 ≤ L) (hb : ∀ (g : Nat → Int64) (gd : Nat → UInt64) (x : Nat) (cz : Nat → Int) (e1 : Nat) (e2 : Int32) (pR pC : va_W), x ≤ 400 → rw_C cA h0 x cz e1 e2 pC → rw_R cA (n + 1) h1 x cz e1 e2 pR → jj_J p l e room_1 s m #[Value.ref b] below meth c 9 A Q (jj_X D A (((ho, .inl (cA 2, 1, .inr (.inl g))) :: (hd, .inl (cA 4, 1, .inr (.inr (.inr (.inl gd))))) :: pR) ++ pC)) (200 + 64 * (n + 1)) (20000 + 414 * (n + 1)) 1435 [(0, .ref b), (1, .ref h0), (2, .ref h1), (3, .ref ho), (4, .ref hd), (5, .int (nI (6 * n)))] []) (g : Nat → Int64) (gd : Nat → UInt64) (x : Nat) (cz : Nat → Int) (e1 : Nat) (e2 : Int32) (pR pC : va_W) (hx : x ≤ 400) (hC : rw_C cA h0 x cz e1 e2 pC) (hR : rw_R cA n h1 x cz e1 e2 pR) : jj_J p l e room_1 s m #[Value.ref b] below meth c 9 A Q (jj_X D A (((ho, .inl (cA 2, 1, .inr (.inl g))) :: (hd, .inl (cA 4, 1, .inr (.inr (.inr (.inl gd))))) :: pR) ++ pC)) (200 + 64 * n) (20000 + 414 * n) 1179 [(0, .ref b), (1, .ref h0), (2, .ref h1), (3, .ref ho), (4, .ref hd), (5, .int (nI (6 * n)))] [] := by
  have hxi : (nI x).toInt = (x : Int) := rl_ti (by omega)
  obtain ⟨K, a0, a9, u, k1, k2, k9, ok, f1, f0, f2, hu, hcu, fe1, fe2⟩ := hC
  refine jj_aload_n C dL_law_1179 rfl ?_
  refine jj_aload_n C dL_law_1180 rfl ?_
  refine jj_iload C dL_law_1181 rfl ?_
  refine jj_iconst (v := 1) C dL_law_1183 (by decide) ?_
  refine jj_iadd (v := nI (6 * n + 1)) C dL_law_1184 (rl_addR (kn := 1) (by decide) rfl) ?_
  refine jj_xld C hX hbl hbA (k := 6 * n + 1) (by omega) hL dL_law_1185 ?_
  refine jj_aload_n C dL_law_1186 rfl ?_
  refine jj_iload C dL_law_1187 rfl ?_
  refine jj_iconst (v := 2) C dL_law_1189 (by decide) ?_
  refine jj_iadd (v := nI (6 * n + 2)) C dL_law_1190 (rl_addR (kn := 2) (by decide) rfl) ?_
  refine jj_xld C hX hbl hbA (k := 6 * n + 2) (by omega) hL dL_law_1191 ?_
  refine jj_i2l C dL_law_1192 rfl ?_
  refine jj_bipush (v := 32) C dL_law_1193 (by decide) ?_
  refine jj_lshl C dL_law_1195 rfl ?_
  refine jj_aload_n C dL_law_1196 rfl ?_
  refine jj_iload C dL_law_1197 rfl ?_
  refine jj_iconst (v := 3) C dL_law_1199 (by decide) ?_
  refine jj_iadd (v := nI (6 * n + 3)) C dL_law_1200 (rl_addR (kn := 3) (by decide) rfl) ?_
  refine jj_xld C hX hbl hbA (k := 6 * n + 3) (by omega) hL dL_law_1201 ?_
  refine jj_i2l C dL_law_1202 rfl ?_
  refine jj_ldc2 (v := 4294967295) C dL_law_1203 jw_264b346af8 ?_
  refine jj_land C dL_law_1206 rfl ?_
  refine jj_lor C dL_law_1207 rfl ?_
  refine jj_aload_n C dL_law_1208 rfl ?_
  refine tt_callSW (rest := []) C (lm_rateFor hl D cA ak h0 ho (xs (6 * n + 1)) (((xs (6 * n + 2)).toInt64 <<< ((32 : Int32).toInt64 &&& 63)) ||| ((xs (6 * n + 3)).toInt64 &&& (4294967295 : Int64))) g k1 ok) [0] _ rfl (rz_pk1 _ _) (by decide) (rz_ndd _ _) rz_dis1 jw_38fc1c50fb jw_d92648919b jw_2ec6af59de jw_966f430fed jn_L_rateFor rfl (jj_le rfl) (jj_le rfl) (by show (200 + 64 * n) + 2 ≤ 603072; omega) (by show (20000 + 414 * n) + 12 ≤ 7211114; omega) (jj_le rfl) dL_law_1209 rfl (fun _ _ _ hX => hX.elim) (fun rx pl r O => ?_)
  obtain ⟨K1, hx1, ok1, fr1, fa1, g1, v1, rfl, rfl⟩ := O
  refine tt_rot ?_
  have hC1 : rw_C cA h0 x cz e1 e2 pl := ⟨K1, a0, a9, _, hx1.kd k1 (by decide), hx1.kd k2 (by decide), hx1.kd k9 (by decide), ok1, (fr1.at k1 (by decide) (by decide) f1), (fr1.at k2 (by decide) (by decide) f0), (fr1.at k2 (by decide) (by decide) f2), (fa1.at k9 (by decide) (by decide) hu), hcu, (fr1.at k1 (by decide) (by decide) fe1), (fr1.at k1 (by decide) (by decide) fe2)⟩
  refine jj_istore C dL_law_1212 (by decide) rfl ?_
  refine jj_aload_n C dL_law_1214 rfl ?_
  refine jj_aload_n C dL_law_1215 rfl ?_
  refine jj_iload C dL_law_1216 rfl ?_
  refine jj_iconst (v := 1) C dL_law_1218 (by decide) ?_
  refine jj_iadd (v := nI (6 * n + 1)) C dL_law_1219 (rl_addR (kn := 1) (by decide) rfl) ?_
  refine jj_xld C hX hbl hbA (k := 6 * n + 1) (by omega) hL dL_law_1220 ?_
  refine jj_aload_n C dL_law_1221 rfl ?_
  refine jj_iload C dL_law_1222 rfl ?_
  refine jj_iconst (v := 2) C dL_law_1224 (by decide) ?_
  refine jj_iadd (v := nI (6 * n + 2)) C dL_law_1225 (rl_addR (kn := 2) (by decide) rfl) ?_
  refine jj_xld C hX hbl hbA (k := 6 * n + 2) (by omega) hL dL_law_1226 ?_
  refine jj_i2l C dL_law_1227 rfl ?_
  refine jj_bipush (v := 32) C dL_law_1228 (by decide) ?_
  refine jj_lshl C dL_law_1230 rfl ?_
  refine jj_aload_n C dL_law_1231 rfl ?_
  refine jj_iload C dL_law_1232 rfl ?_
  refine jj_iconst (v := 3) C dL_law_1234 (by decide) ?_
  refine jj_iadd (v := nI (6 * n + 3)) C dL_law_1235 (rl_addR (kn := 3) (by decide) rfl) ?_
  refine jj_xld C hX hbl hbA (k := 6 * n + 3) (by omega) hL dL_law_1236 ?_
  refine jj_i2l C dL_law_1237 rfl ?_
  refine jj_ldc2 (v := 4294967295) C dL_law_1238 jw_264b346af8 ?_
  refine jj_land C dL_law_1241 rfl ?_
  refine jj_lor C dL_law_1242 rfl ?_
  obtain ⟨K2, aw, aa, at1, ai, af, ap, b9, B, um, hk, hk9, ok2, hm, h12, h13, hum, hcm, h17, h18, he3, hM, hB0, hBF⟩ := hR
  obtain ⟨f, P, n6, hc, hcp, h6, un6, hKK, hHP⟩ := hM
  refine tt_pools ?_
  obtain ⟨qd, gt, hqd⟩ := tt_recv (cx := []) ok2 hk.1 (by decide) rfl
  refine tt_callV (rest := []) C (rs_rateFor hl D cA ak n6 (xs (6 * n + 1)) (((xs (6 * n + 2)).toInt64 <<< ((32 : Int32).toInt64 &&& 63)) ||| ((xs (6 * n + 3)).toInt64 &&& (4294967295 : Int64))) B (5000 * (n : Int)) f P hk.1 hk.2.1 hk.2.2.1 hk.2.2.2.1 hk.2.2.2.2.1 hk.2.2.2.2.2.1 hk.2.2.2.2.2.2 (by omega) (by omega) hKK hHP (by omega) (by omega) ⟨by omega, by omega⟩ ok2 hm hc hcp h6) [] _ rfl (rz_pkr _) (by decide) (rz_ndr _) rz_dis0 qd hqd rfl rfl jw_f9ae60a206 jw_963ec0158e jw_1943962895 jw_f96c99f44d jw_628ae85f1b jn_X11_rateFor rfl (jj_le rfl) (jj_le rfl) (by show (200 + 64 * n) + 2 + 0 ≤ 603072; omega) (by show (20000 + 414 * n) + 12 + 0 ≤ 7211114; omega) (jj_le rfl) dL_law_1243 rfl (fun _ _ _ hX => hX.elim) (fun rx pm1 r O => ?_)
  obtain ⟨rfl, ok1, hf1, ha1, O⟩ := O
  refine tt_nilr ?_
  refine tt_pools ?_
  have hm_2 := hm.fr hf1 hk.1 (by decide)
  obtain ⟨hM_3, w_4, rfl⟩ := O
  refine jj_istore C dL_law_1246 (by decide) rfl ?_
  refine jj_goto (tgt := 1435) C dL_law_1248 (by decide) ?_
  have hR9 : rw_R cA (n + 1) h1 x cz e1 e2 pm1 := ⟨K2, aw, aa, at1, ai, af, ap, b9, _, _, hk, hk9, ok1, hm_2, (hf1.at hk.1 (by decide) (by decide) h12), (hf1.at hk.1 (by decide) (by decide) h13), (ha1.at hk9 (by decide) (by decide) hum), hcm, (hf1.at hk.1 (by decide) (by decide) h17), (hf1.at hk.1 (by decide) (by decide) h18), he3, hM_3.mono (Int.le_refl _) (by omega), (by omega), (by omega)⟩
  exact jj_loc [2, 3, 4, 5, 6, 7] rfl (jj_widen (by omega) (by omega) (hb g1 gd x cz e1 e2 pm1 pl hx hC1 hR9))

set_option maxHeartbeats 4000000 in
set_option maxRecDepth 100000 in
theorem law_c35 {p : Program} {l : Launch} {e : Env} {s : State} {m : MethodId} {below : List Frame} {meth : Method} {c : Code} (hl : l.stackTraces = false) {D : va_G} {cA : Nat → ClassId} {ak : (Nat → Nat) × (Nat → Nat)} {A : Nat → Prop} {b L : Nat} {xs : Nat → Int32} {Q : State → Prop} (C : jj_C p l s m #[Value.ref b] meth c code 9 R_law ret D cA A ak) (hX : va_X b L xs s s.heap) (hbl : b < s.heap.size) (hbA : ¬ A b) (hL : L ≤ 3072) {n h0 h1 ho hd : Nat} (hn : 6 * n + 6 ≤ L) (hb : ∀ (g : Nat → Int64) (gd : Nat → UInt64) (x : Nat) (cz : Nat → Int) (e1 : Nat) (e2 : Int32) (pR pC : va_W), x ≤ 400 → rw_C cA h0 x cz e1 e2 pC → rw_R cA (n + 1) h1 x cz e1 e2 pR → jj_J p l e room_1 s m #[Value.ref b] below meth c 9 A Q (jj_X D A (((ho, .inl (cA 2, 1, .inr (.inl g))) :: (hd, .inl (cA 4, 1, .inr (.inr (.inr (.inl gd))))) :: pR) ++ pC)) (200 + 64 * (n + 1)) (20000 + 414 * (n + 1)) 1435 [(0, .ref b), (1, .ref h0), (2, .ref h1), (3, .ref ho), (4, .ref hd), (5, .int (nI (6 * n)))] []) (g : Nat → Int64) (gd : Nat → UInt64) (x : Nat) (cz : Nat → Int) (e1 : Nat) (e2 : Int32) (pR pC : va_W) (hx : x ≤ 400) (hC : rw_C cA h0 x cz e1 e2 pC) (hR : rw_R cA n h1 x cz e1 e2 pR) : jj_J p l e room_1 s m #[Value.ref b] below meth c 9 A Q (jj_X D A (((ho, .inl (cA 2, 1, .inr (.inl g))) :: (hd, .inl (cA 4, 1, .inr (.inr (.inr (.inl gd))))) :: pR) ++ pC)) (200 + 64 * n) (20000 + 414 * n) 1251 [(0, .ref b), (1, .ref h0), (2, .ref h1), (3, .ref ho), (4, .ref hd), (5, .int (nI (6 * n)))] [] := by
  have hxi : (nI x).toInt = (x : Int) := rl_ti (by omega)
  obtain ⟨K, a0, a9, u, k1, k2, k9, ok, f1, f0, f2, hu, hcu, fe1, fe2⟩ := hC
  refine jj_aload_n C dL_law_1251 rfl ?_
  refine jj_aload_n C dL_law_1252 rfl ?_
  refine jj_iload C dL_law_1253 rfl ?_
  refine jj_iconst (v := 1) C dL_law_1255 (by decide) ?_
  refine jj_iadd (v := nI (6 * n + 1)) C dL_law_1256 (rl_addR (kn := 1) (by decide) rfl) ?_
  refine jj_xld C hX hbl hbA (k := 6 * n + 1) (by omega) hL dL_law_1257 ?_
  refine jj_i2l C dL_law_1258 rfl ?_
  refine jj_bipush (v := 32) C dL_law_1259 (by decide) ?_
  refine jj_lshl C dL_law_1261 rfl ?_
  refine jj_aload_n C dL_law_1262 rfl ?_
  refine jj_iload C dL_law_1263 rfl ?_
  refine jj_iconst (v := 2) C dL_law_1265 (by decide) ?_
  refine jj_iadd (v := nI (6 * n + 2)) C dL_law_1266 (rl_addR (kn := 2) (by decide) rfl) ?_
  refine jj_xld C hX hbl hbA (k := 6 * n + 2) (by omega) hL dL_law_1267 ?_
  refine jj_i2l C dL_law_1268 rfl ?_
  refine jj_ldc2 (v := 4294967295) C dL_law_1269 jw_264b346af8 ?_
  refine jj_land C dL_law_1272 rfl ?_
  refine jj_lor C dL_law_1273 rfl ?_
  refine jj_aload_n C dL_law_1274 rfl ?_
  refine tt_callSW (rest := []) C (lm_daysUntil hl D cA ak h0 ho (((xs (6 * n + 1)).toInt64 <<< ((32 : Int32).toInt64 &&& 63)) ||| ((xs (6 * n + 2)).toInt64 &&& (4294967295 : Int64))) g k1 ok) [0] _ rfl (rz_pk1 _ _) (by decide) (rz_ndd _ _) rz_dis1 jw_fd81b43c21 jw_d2c21e3b41 jw_2ec6af59de jw_20534ee4a9 jn_L_daysUntil rfl (jj_le rfl) (jj_le rfl) (by show (200 + 64 * n) + 1 ≤ 603072; omega) (by show (20000 + 414 * n) + 6 ≤ 7211114; omega) (jj_le rfl) dL_law_1275 rfl (fun _ _ _ hX => hX.elim) (fun rx pl r O => ?_)
  obtain ⟨K1, hx1, ok1, fr1, fa1, g1, v1, rfl, rfl⟩ := O
  refine tt_rot ?_
  have hC1 : rw_C cA h0 x cz e1 e2 pl := ⟨K1, a0, a9, _, hx1.kd k1 (by decide), hx1.kd k2 (by decide), hx1.kd k9 (by decide), ok1, (fr1.at k1 (by decide) (by decide) f1), (fr1.at k2 (by decide) (by decide) f0), (fr1.at k2 (by decide) (by decide) f2), (fa1.at k9 (by decide) (by decide) hu), hcu, (fr1.at k1 (by decide) (by decide) fe1), (fr1.at k1 (by decide) (by decide) fe2)⟩
  refine jj_istore C dL_law_1278 (by decide) rfl ?_
  refine jj_aload_n C dL_law_1280 rfl ?_
  refine jj_aload_n C dL_law_1281 rfl ?_
  refine jj_iload C dL_law_1282 rfl ?_
  refine jj_iconst (v := 1) C dL_law_1284 (by decide) ?_
  refine jj_iadd (v := nI (6 * n + 1)) C dL_law_1285 (rl_addR (kn := 1) (by decide) rfl) ?_
  refine jj_xld C hX hbl hbA (k := 6 * n + 1) (by omega) hL dL_law_1286 ?_
  refine jj_i2l C dL_law_1287 rfl ?_
  refine jj_bipush (v := 32) C dL_law_1288 (by decide) ?_
  refine jj_lshl C dL_law_1290 rfl ?_
  refine jj_aload_n C dL_law_1291 rfl ?_
  refine jj_iload C dL_law_1292 rfl ?_
  refine jj_iconst (v := 2) C dL_law_1294 (by decide) ?_
  refine jj_iadd (v := nI (6 * n + 2)) C dL_law_1295 (rl_addR (kn := 2) (by decide) rfl) ?_
  refine jj_xld C hX hbl hbA (k := 6 * n + 2) (by omega) hL dL_law_1296 ?_
  refine jj_i2l C dL_law_1297 rfl ?_
  refine jj_ldc2 (v := 4294967295) C dL_law_1298 jw_264b346af8 ?_
  refine jj_land C dL_law_1301 rfl ?_
  refine jj_lor C dL_law_1302 rfl ?_
  obtain ⟨K2, aw, aa, at1, ai, af, ap, b9, B, um, hk, hk9, ok2, hm, h12, h13, hum, hcm, h17, h18, he3, hM, hB0, hBF⟩ := hR
  obtain ⟨f, P, n6, hc, hcp, h6, un6, hKK, hHP⟩ := hM
  refine tt_pools ?_
  obtain ⟨qd, gt, hqd⟩ := tt_recv (cx := []) ok2 hk.1 (by decide) rfl
  refine tt_callV (rest := []) C (rs_daysUntil hl D cA ak n6 (((xs (6 * n + 1)).toInt64 <<< ((32 : Int32).toInt64 &&& 63)) ||| ((xs (6 * n + 2)).toInt64 &&& (4294967295 : Int64))) B (5000 * (n : Int)) f P hk.1 hk.2.1 hk.2.2.1 hk.2.2.2.1 hk.2.2.2.2.1 hk.2.2.2.2.2.1 hk.2.2.2.2.2.2 (by omega) (by omega) hKK hHP (by omega) (by omega) ⟨by omega, by omega⟩ ok2 hm hc hcp h6) [] _ rfl (rz_pkr _) (by decide) (rz_ndr _) rz_dis0 qd hqd rfl rfl jw_ab701ae4ad jw_d17d175570 jw_71156941d5 jw_f96c99f44d jw_6daa31c804 jn_X11_daysUntil rfl (jj_le rfl) (jj_le rfl) (by show (200 + 64 * n) + 1 + 0 ≤ 603072; omega) (by show (20000 + 414 * n) + 6 + 0 ≤ 7211114; omega) (jj_le rfl) dL_law_1303 rfl (fun _ _ _ hX => hX.elim) (fun rx pm1 r O => ?_)
  obtain ⟨rfl, ok1, hf1, ha1, O⟩ := O
  refine tt_nilr ?_
  refine tt_pools ?_
  have hm_2 := hm.fr hf1 hk.1 (by decide)
  obtain ⟨hM_3, w_4, rfl⟩ := O
  refine jj_istore C dL_law_1306 (by decide) rfl ?_
  refine jj_goto (tgt := 1435) C dL_law_1308 (by decide) ?_
  have hR9 : rw_R cA (n + 1) h1 x cz e1 e2 pm1 := ⟨K2, aw, aa, at1, ai, af, ap, b9, _, _, hk, hk9, ok1, hm_2, (hf1.at hk.1 (by decide) (by decide) h12), (hf1.at hk.1 (by decide) (by decide) h13), (ha1.at hk9 (by decide) (by decide) hum), hcm, (hf1.at hk.1 (by decide) (by decide) h17), (hf1.at hk.1 (by decide) (by decide) h18), he3, hM_3.mono (Int.le_refl _) (by omega), (by omega), (by omega)⟩
  exact jj_loc [2, 3, 4, 5, 6, 7] rfl (jj_widen (by omega) (by omega) (hb g1 gd x cz e1 e2 pm1 pl hx hC1 hR9))

set_option maxHeartbeats 4000000 in
set_option maxRecDepth 100000 in
theorem law_c36 {p : Program} {l : Launch} {e : Env} {s : State} {m : MethodId} {below : List Frame} {meth : Method} {c : Code} (hl : l.stackTraces = false) {D : va_G} {cA : Nat → ClassId} {ak : (Nat → Nat) × (Nat → Nat)} {A : Nat → Prop} {b L : Nat} {xs : Nat → Int32} {Q : State → Prop} (C : jj_C p l s m #[Value.ref b] meth c code 9 R_law ret D cA A ak) (hX : va_X b L xs s s.heap) (hbl : b < s.heap.size) (hbA : ¬ A b) (hL : L ≤ 3072) {n h0 h1 ho hd : Nat} (hn : 6 * n + 6 ≤ L) (hb : ∀ (g : Nat → Int64) (gd : Nat → UInt64) (x : Nat) (cz : Nat → Int) (e1 : Nat) (e2 : Int32) (pR pC : va_W), x ≤ 400 → rw_C cA h0 x cz e1 e2 pC → rw_R cA (n + 1) h1 x cz e1 e2 pR → jj_J p l e room_1 s m #[Value.ref b] below meth c 9 A Q (jj_X D A (((ho, .inl (cA 2, 1, .inr (.inl g))) :: (hd, .inl (cA 4, 1, .inr (.inr (.inr (.inl gd))))) :: pR) ++ pC)) (200 + 64 * (n + 1)) (20000 + 414 * (n + 1)) 1435 [(0, .ref b), (1, .ref h0), (2, .ref h1), (3, .ref ho), (4, .ref hd), (5, .int (nI (6 * n)))] []) (g : Nat → Int64) (gd : Nat → UInt64) (x : Nat) (cz : Nat → Int) (e1 : Nat) (e2 : Int32) (pR pC : va_W) (hx : x ≤ 400) (hC : rw_C cA h0 x cz e1 e2 pC) (hR : rw_R cA n h1 x cz e1 e2 pR) : jj_J p l e room_1 s m #[Value.ref b] below meth c 9 A Q (jj_X D A (((ho, .inl (cA 2, 1, .inr (.inl g))) :: (hd, .inl (cA 4, 1, .inr (.inr (.inr (.inl gd))))) :: pR) ++ pC)) (200 + 64 * n) (20000 + 414 * n) 1311 [(0, .ref b), (1, .ref h0), (2, .ref h1), (3, .ref ho), (4, .ref hd), (5, .int (nI (6 * n)))] [] := by
  have hxi : (nI x).toInt = (x : Int) := rl_ti (by omega)
  obtain ⟨K, a0, a9, u, k1, k2, k9, ok, f1, f0, f2, hu, hcu, fe1, fe2⟩ := hC
  refine jj_aload_n C dL_law_1311 rfl ?_
  obtain ⟨qc, gs, hqc⟩ := tt_recv (cx := []) ok k1 (by decide) rfl
  refine tt_callV (rest := []) C (tc_X10_wouldCrystallize_1 hl D cA ak h0 k1 ok) [] _ rfl (rz_pkr _) (by decide) (rz_ndr _) rz_dis0 qc hqc rfl rfl jw_8be096973f jw_1718ffbea2 jw_a5fd1cb0d0 jw_6f6d707074 jw_9a54d39c49 jn_X10_wouldCrystallize rfl (jj_le rfl) (jj_le rfl) (by show (200 + 64 * n) + 0 ≤ 603072; omega) (by show (20000 + 414 * n) + 0 ≤ 7211114; omega) (jj_le rfl) dL_law_1312 rfl (fun _ _ _ hX => hX.elim) (fun rx pl r O => ?_)
  obtain ⟨rfl, ok1, fr1, fa1, ⟨v1, rfl⟩⟩ := O
  refine tt_nilr ?_
  have hC1 : rw_C cA h0 x cz e1 e2 pl := ⟨K, a0, a9, _, (tt_ex.refl _).kd k1 (by decide), (tt_ex.refl _).kd k2 (by decide), (tt_ex.refl _).kd k9 (by decide), ok1, (fr1.at k1 (by decide) (by decide) f1), (fr1.at k2 (by decide) (by decide) f0), (fr1.at k2 (by decide) (by decide) f2), (fa1.at k9 (by decide) (by decide) hu), hcu, (fr1.at k1 (by decide) (by decide) fe1), (fr1.at k1 (by decide) (by decide) fe2)⟩
  refine jj_pop2 C dL_law_1315 rfl ?_
  refine jj_aload_n C dL_law_1316 rfl ?_
  obtain ⟨K2, aw, aa, at1, ai, af, ap, b9, B, um, hk, hk9, ok2, hm, h12, h13, hum, hcm, h17, h18, he3, hM, hB0, hBF⟩ := hR
  obtain ⟨f, P, n6, hc, hcp, h6, un6, hKK, hHP⟩ := hM
  refine tt_pools ?_
  obtain ⟨qd, gt, hqd⟩ := tt_recv (cx := []) ok2 hk.1 (by decide) rfl
  refine tt_callV (rest := []) C (rs_wouldCrystallize hl D cA ak n6 B (5000 * (n : Int)) f P hk.1 hk.2.1 hk.2.2.1 hk.2.2.2.1 hk.2.2.2.2.1 hk.2.2.2.2.2.1 hk.2.2.2.2.2.2 (by omega) (by omega) hKK hHP (by omega) (by omega) ⟨by omega, by omega⟩ ok2 hm hc hcp h6) [] _ rfl (rz_pkr _) (by decide) (rz_ndr _) rz_dis0 qd hqd rfl rfl jw_488a4d9b4f jw_cec654646a jw_61a564ec70 jw_f96c99f44d jw_a12432dd52 jn_X11_wouldCrystallize rfl (jj_le rfl) (jj_le rfl) (by show (200 + 64 * n) + 0 + 0 ≤ 603072; omega) (by show (20000 + 414 * n) + 0 + 0 ≤ 7211114; omega) (jj_le rfl) dL_law_1317 rfl (fun _ _ _ hX => hX.elim) (fun rx pm1 r O => ?_)
  obtain ⟨rfl, ok1, hf1, ha1, O⟩ := O
  refine tt_nilr ?_
  refine tt_pools ?_
  have hm_2 := hm.fr hf1 hk.1 (by decide)
  obtain ⟨hM_3, w_4, rfl⟩ := O
  refine jj_pop2 C dL_law_1320 rfl ?_
  refine jj_goto (tgt := 1435) C dL_law_1321 (by decide) ?_
  have hR9 : rw_R cA (n + 1) h1 x cz e1 e2 pm1 := ⟨K2, aw, aa, at1, ai, af, ap, b9, _, _, hk, hk9, ok1, hm_2, (hf1.at hk.1 (by decide) (by decide) h12), (hf1.at hk.1 (by decide) (by decide) h13), (ha1.at hk9 (by decide) (by decide) hum), hcm, (hf1.at hk.1 (by decide) (by decide) h17), (hf1.at hk.1 (by decide) (by decide) h18), he3, hM_3.mono (Int.le_refl _) (by omega), (by omega), (by omega)⟩
  exact jj_loc [0, 1, 2, 3, 4, 5] rfl (jj_widen (by omega) (by omega) (hb g gd x cz e1 e2 pm1 pl hx hC1 hR9))

