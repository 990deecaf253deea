

set_option maxHeartbeats 4000000 in
set_option maxRecDepth 100000 in
theorem law_back {p : Program} {l : Launch} {e : Env} {s : State} {m : MethodId} {below : List Frame} {meth : Method} {c : Code} (hl : l.stackTraces = false) {D : va_G} {cA : Nat → ClassId} {ak : (Nat → Nat) × (Nat → Nat)} {A : Nat → Prop} {b L : Nat} {xs : Nat → Int32} {Q : State → Prop} (C : jj_C p l s m #[Value.ref b] meth c code 9 R_law ret D cA A ak) (hX : va_X b L xs s s.heap) (hbl : b < s.heap.size) (hbA : ¬ A b) (hL : L ≤ 3072) {n h0 h1 ho hd : Nat} (g : Nat → Int64) (gd : Nat → UInt64) (pR pC : va_W) (hJ : jj_J p l e room_1 s m #[Value.ref b] below meth c 9 A Q (jj_X D A (((ho, .inl (cA 2, 1, .inr (.inl g))) :: (hd, .inl (cA 4, 1, .inr (.inr (.inr (.inl gd))))) :: pR) ++ pC)) (200 + 64 * (n + 1)) (20000 + 414 * (n + 1)) 28 [(0, .ref b), (1, .ref h0), (2, .ref h1), (3, .ref ho), (4, .ref hd), (5, .int (nI (6 * (n + 1))))] []) : jj_J p l e room_1 s m #[Value.ref b] below meth c 9 A Q (jj_X D A (((ho, .inl (cA 2, 1, .inr (.inl g))) :: (hd, .inl (cA 4, 1, .inr (.inr (.inr (.inl gd))))) :: pR) ++ pC)) (200 + 64 * (n + 1)) (20000 + 414 * (n + 1)) 1435 [(0, .ref b), (1, .ref h0), (2, .ref h1), (3, .ref ho), (4, .ref hd), (5, .int (nI (6 * n)))] [] := by
  refine jj_iinc C dL_law_1435 rfl (rz_six n) (by decide) rfl ?_
  refine jj_goto (tgt := 28) C dL_law_1438 (by decide) ?_
  exact jj_loc [1, 2, 3, 4, 5, 0] rfl hJ

set_option maxHeartbeats 4000000 in
set_option maxRecDepth 100000 in
theorem law_loop {p : Program} {l : Launch} {e : Env} {s : State} {m : MethodId} {below : List Frame} {meth : Method} {c : Code} (hl : l.stackTraces = false) {D : va_G} {cA : Nat → ClassId} {ak : (Nat → Nat) × (Nat → Nat)} {A : Nat → Prop} {b L : Nat} {xs : Nat → Int32} {Q : State → Prop} (C : jj_C p l s m #[Value.ref b] meth c code 9 R_law ret D cA A ak) (hX : va_X b L xs s s.heap) (hbl : b < s.heap.size) (hbA : ¬ A b) (hL : L ≤ 3072) {h0 h1 ho hd : Nat} (hret : jj_J p l e room_1 s m #[Value.ref b] below meth c 9 A Q (jj_X D A []) 603072 7211114 1441 [(0, .ref b)] []) : ∀ (k n : Nat), n + k = 513 → ∀ (g : Nat → Int64) (gd : Nat → UInt64) (x : Nat) (cz : Nat → Int) (e1 : Nat) (e2 : Int32) (pR pC : va_W), x ≤ 400 → rw_C cA h0 x cz e1 e2 pC → rw_R cA n h1 x cz e1 e2 pR → jj_J p l e room_1 s m #[Value.ref b] below meth c 9 A Q (jj_X D A (((ho, .inl (cA 2, 1, .inr (.inl g))) :: (hd, .inl (cA 4, 1, .inr (.inr (.inr (.inl gd))))) :: pR) ++ pC)) (200 + 64 * n) (20000 + 414 * n) 28 [(0, .ref b), (1, .ref h0), (2, .ref h1), (3, .ref ho), (4, .ref hd), (5, .int (nI (6 * n)))] [] := by
  intro k
  induction k with
  | zero =>
    intro n hkn g gd x cz e1 e2 pR pC hx hC hR
    refine jj_iload C dL_law_28 rfl ?_
    refine jj_aload_n C dL_law_30 rfl ?_
    refine jj_xlen C hX hbl hbA dL_law_31 ?_
    refine jj_bipush (v := 6) C dL_law_32 (by decide) ?_
    refine jj_isub C dL_law_34 rfl ?_
    refine jj_icmp_gt (tgt := 1441) C dL_law_35 (by decide) (fun _ => ?_) (fun cg => ?_)
    · exact jj_loc [0] rfl (jj_drop [] rfl (by decide) (jj_widen (by omega) (by omega) hret))
    · exact absurd (rz_go hL (by omega) cg) (by omega)
  | succ k ih =>
    intro n hkn g gd x cz e1 e2 pR pC hx hC hR
    refine jj_iload C dL_law_28 rfl ?_
    refine jj_aload_n C dL_law_30 rfl ?_
    refine jj_xlen C hX hbl hbA dL_law_31 ?_
    refine jj_bipush (v := 6) C dL_law_32 (by decide) ?_
    refine jj_isub C dL_law_34 rfl ?_
    refine jj_icmp_gt (tgt := 1441) C dL_law_35 (by decide) (fun _ => ?_) (fun cg => ?_)
    · exact jj_loc [0] rfl (jj_drop [] rfl (by decide) (jj_widen (by omega) (by omega) hret))
    · have hn := rz_go hL (by omega) cg
      have hb : ∀ (g : Nat → Int64) (gd : Nat → UInt64) (x : Nat) (cz : Nat → Int) (e1 : Nat) (e2 : Int32) (pR pC : va_W), x ≤ 400 → rw_C cA h0 x cz e1 e2 pC → rw_R cA (n + 1) h1 x cz e1 e2 pR → jj_J p l e room_1 s m #[Value.ref b] below meth c 9 A Q (jj_X D A (((ho, .inl (cA 2, 1, .inr (.inl g))) :: (hd, .inl (cA 4, 1, .inr (.inr (.inr (.inl gd))))) :: pR) ++ pC)) (200 + 64 * (n + 1)) (20000 + 414 * (n + 1)) 1435 [(0, .ref b), (1, .ref h0), (2, .ref h1), (3, .ref ho), (4, .ref hd), (5, .int (nI (6 * n)))] [] := fun g gd x cz e1 e2 pR pC hx hC hR => law_back hl C hX hbl hbA hL g gd pR pC (ih (n + 1) (by omega) g gd x cz e1 e2 pR pC hx hC hR)
      refine jj_aload_n C dL_law_38 rfl ?_
      refine jj_iload C dL_law_39 rfl ?_
      refine jj_xld C hX hbl hbA (k := 6 * n) (by omega) hL dL_law_41 ?_
      refine jj_bipush (v := 63) C dL_law_42 (by decide) ?_
      refine jj_iand C dL_law_44 rfl ?_
      rcases jj_em ((xs (6 * n)) &&& 63 = 0) with h0_ | h0_
      · refine jj_tableIn (tgt := 232) C dL_law_45 (by rw [h0_]; decide) (by rw [h0_]; decide) (by rw [h0_]; rfl) (by decide) ?_
        exact law_c0 hl C hX hbl hbA hL hn hb g gd x cz e1 e2 pR pC hx hC hR
      rcases jj_em ((xs (6 * n)) &&& 63 = 1) with h1_ | h1_
      · refine jj_tableIn (tgt := 308) C dL_law_45 (by rw [h1_]; decide) (by rw [h1_]; decide) (by rw [h1_]; rfl) (by decide) ?_
        exact law_c1 hl C hX hbl hbA hL hn hb g gd x cz e1 e2 pR pC hx hC hR
      rcases jj_em ((xs (6 * n)) &&& 63 = 2) with h2_ | h2_
      · refine jj_tableIn (tgt := 336) C dL_law_45 (by rw [h2_]; decide) (by rw [h2_]; decide) (by rw [h2_]; rfl) (by decide) ?_
        exact law_c2 hl C hX hbl hbA hL hn hb g gd x cz e1 e2 pR pC hx hC hR
      rcases jj_em ((xs (6 * n)) &&& 63 = 3) with h3_ | h3_
      · refine jj_tableIn (tgt := 349) C dL_law_45 (by rw [h3_]; decide) (by rw [h3_]; decide) (by rw [h3_]; rfl) (by decide) ?_
        exact law_c3 hl C hX hbl hbA hL hn hb g gd x cz e1 e2 pR pC hx hC hR
      rcases jj_em ((xs (6 * n)) &&& 63 = 4) with h4_ | h4_
      · refine jj_tableIn (tgt := 362) C dL_law_45 (by rw [h4_]; decide) (by rw [h4_]; decide) (by rw [h4_]; rfl) (by decide) ?_
        exact law_c4 hl C hX hbl hbA hL hn hb g gd x cz e1 e2 pR pC hx hC hR
      rcases jj_em ((xs (6 * n)) &&& 63 = 5) with h5_ | h5_
      · refine jj_tableIn (tgt := 375) C dL_law_45 (by rw [h5_]; decide) (by rw [h5_]; decide) (by rw [h5_]; rfl) (by decide) ?_
        exact law_c5 hl C hX hbl hbA hL hn hb g gd x cz e1 e2 pR pC hx hC hR
      rcases jj_em ((xs (6 * n)) &&& 63 = 6) with h6_ | h6_
      · refine jj_tableIn (tgt := 415) C dL_law_45 (by rw [h6_]; decide) (by rw [h6_]; decide) (by rw [h6_]; rfl) (by decide) ?_
        exact law_c6 hl C hX hbl hbA hL hn hb g gd x cz e1 e2 pR pC hx hC hR
      rcases jj_em ((xs (6 * n)) &&& 63 = 7) with h7_ | h7_
      · refine jj_tableIn (tgt := 455) C dL_law_45 (by rw [h7_]; decide) (by rw [h7_]; decide) (by rw [h7_]; rfl) (by decide) ?_
        exact law_c7 hl C hX hbl hbA hL hn hb g gd x cz e1 e2 pR pC hx hC hR
      rcases jj_em ((xs (6 * n)) &&& 63 = 8) with h8_ | h8_
      · refine jj_tableIn (tgt := 483) C dL_law_45 (by rw [h8_]; decide) (by rw [h8_]; decide) (by rw [h8_]; rfl) (by decide) ?_
        exact law_c8 hl C hX hbl hbA hL hn hb g gd x cz e1 e2 pR pC hx hC hR
      rcases jj_em ((xs (6 * n)) &&& 63 = 9) with h9_ | h9_
      · refine jj_tableIn (tgt := 496) C dL_law_45 (by rw [h9_]; decide) (by rw [h9_]; decide) (by rw [h9_]; rfl) (by decide) ?_
        exact law_c9 hl C hX hbl hbA hL hn hb g gd x cz e1 e2 pR pC hx hC hR
      rcases jj_em ((xs (6 * n)) &&& 63 = 10) with h10_ | h10_
      · refine jj_tableIn (tgt := 524) C dL_law_45 (by rw [h10_]; decide) (by rw [h10_]; decide) (by rw [h10_]; rfl) (by decide) ?_
        exact law_c10 hl C hX hbl hbA hL hn hb g gd x cz e1 e2 pR pC hx hC hR
      rcases jj_em ((xs (6 * n)) &&& 63 = 11) with h11_ | h11_
      · refine jj_tableIn (tgt := 552) C dL_law_45 (by rw [h11_]; decide) (by rw [h11_]; decide) (by rw [h11_]; rfl) (by decide) ?_
        exact law_c11 hl C hX hbl hbA hL hn hb g gd x cz e1 e2 pR pC hx hC hR
      rcases jj_em ((xs (6 * n)) &&& 63 = 12) with h12_ | h12_
      · refine jj_tableIn (tgt := 565) C dL_law_45 (by rw [h12_]; decide) (by rw [h12_]; decide) (by rw [h12_]; rfl) (by decide) ?_
        exact law_c12 hl C hX hbl hbA hL hn hb g gd x cz e1 e2 pR pC hx hC hR
      rcases jj_em ((xs (6 * n)) &&& 63 = 13) with h13_ | h13_
      · refine jj_tableIn (tgt := 578) C dL_law_45 (by rw [h13_]; decide) (by rw [h13_]; decide) (by rw [h13_]; rfl) (by decide) ?_
        exact law_c13 hl C hX hbl hbA hL hn hb g gd x cz e1 e2 pR pC hx hC hR
      rcases jj_em ((xs (6 * n)) &&& 63 = 14) with h14_ | h14_
      · refine jj_tableIn (tgt := 630) C dL_law_45 (by rw [h14_]; decide) (by rw [h14_]; decide) (by rw [h14_]; rfl) (by decide) ?_
        exact law_c14 hl C hX hbl hbA hL hn hb g gd x cz e1 e2 pR pC hx hC hR
      rcases jj_em ((xs (6 * n)) &&& 63 = 15) with h15_ | h15_
      · refine jj_tableIn (tgt := 658) C dL_law_45 (by rw [h15_]; decide) (by rw [h15_]; decide) (by rw [h15_]; rfl) (by decide) ?_
        exact law_c15 hl C hX hbl hbA hL hn hb g gd x cz e1 e2 pR pC hx hC hR
      rcases jj_em ((xs (6 * n)) &&& 63 = 16) with h16_ | h16_
      · refine jj_tableIn (tgt := 671) C dL_law_45 (by rw [h16_]; decide) (by rw [h16_]; decide) (by rw [h16_]; rfl) (by decide) ?_
        exact law_c16 hl C hX hbl hbA hL hn hb g gd x cz e1 e2 pR pC hx hC hR
      rcases jj_em ((xs (6 * n)) &&& 63 = 17) with h17_ | h17_
      · refine jj_tableIn (tgt := 699) C dL_law_45 (by rw [h17_]; decide) (by rw [h17_]; decide) (by rw [h17_]; rfl) (by decide) ?_
        exact law_c17 hl C hX hbl hbA hL hn hb g gd x cz e1 e2 pR pC hx hC hR
      rcases jj_em ((xs (6 * n)) &&& 63 = 18) with h18_ | h18_
      · refine jj_tableIn (tgt := 712) C dL_law_45 (by rw [h18_]; decide) (by rw [h18_]; decide) (by rw [h18_]; rfl) (by decide) ?_
        exact law_c18 hl C hX hbl hbA hL hn hb g gd x cz e1 e2 pR pC hx hC hR
      rcases jj_em ((xs (6 * n)) &&& 63 = 19) with h19_ | h19_
      · refine jj_tableIn (tgt := 740) C dL_law_45 (by rw [h19_]; decide) (by rw [h19_]; decide) (by rw [h19_]; rfl) (by decide) ?_
        exact law_c19 hl C hX hbl hbA hL hn hb g gd x cz e1 e2 pR pC hx hC hR
      rcases jj_em ((xs (6 * n)) &&& 63 = 20) with h20_ | h20_
      · refine jj_tableIn (tgt := 768) C dL_law_45 (by rw [h20_]; decide) (by rw [h20_]; decide) (by rw [h20_]; rfl) (by decide) ?_
        exact law_c20 hl C hX hbl hbA hL hn hb g gd x cz e1 e2 pR pC hx hC hR
      rcases jj_em ((xs (6 * n)) &&& 63 = 21) with h21_ | h21_
      · refine jj_tableIn (tgt := 808) C dL_law_45 (by rw [h21_]; decide) (by rw [h21_]; decide) (by rw [h21_]; rfl) (by decide) ?_
        exact law_c21 hl C hX hbl hbA hL hn hb g gd x cz e1 e2 pR pC hx hC hR
      rcases jj_em ((xs (6 * n)) &&& 63 = 22) with h22_ | h22_
      · refine jj_tableIn (tgt := 848) C dL_law_45 (by rw [h22_]; decide) (by rw [h22_]; decide) (by rw [h22_]; rfl) (by decide) ?_
        exact law_c22 hl C hX hbl hbA hL hn hb g gd x cz e1 e2 pR pC hx hC hR
      rcases jj_em ((xs (6 * n)) &&& 63 = 23) with h23_ | h23_
      · refine jj_tableIn (tgt := 888) C dL_law_45 (by rw [h23_]; decide) (by rw [h23_]; decide) (by rw [h23_]; rfl) (by decide) ?_
        exact law_c23 hl C hX hbl hbA hL hn hb g gd x cz e1 e2 pR pC hx hC hR
      rcases jj_em ((xs (6 * n)) &&& 63 = 24) with h24_ | h24_
      · refine jj_tableIn (tgt := 916) C dL_law_45 (by rw [h24_]; decide) (by rw [h24_]; decide) (by rw [h24_]; rfl) (by decide) ?_
        exact law_c24 hl C hX hbl hbA hL hn hb g gd x cz e1 e2 pR pC hx hC hR
      rcases jj_em ((xs (6 * n)) &&& 63 = 25) with h25_ | h25_
      · refine jj_tableIn (tgt := 956) C dL_law_45 (by rw [h25_]; decide) (by rw [h25_]; decide) (by rw [h25_]; rfl) (by decide) ?_
        exact law_c25 hl C hX hbl hbA hL hn hb g gd x cz e1 e2 pR pC hx hC hR
      rcases jj_em ((xs (6 * n)) &&& 63 = 26) with h26_ | h26_
      · refine jj_tableIn (tgt := 984) C dL_law_45 (by rw [h26_]; decide) (by rw [h26_]; decide) (by rw [h26_]; rfl) (by decide) ?_
        exact law_c26 hl C hX hbl hbA hL hn hb g gd x cz e1 e2 pR pC hx hC hR
      rcases jj_em ((xs (6 * n)) &&& 63 = 27) with h27_ | h27_
      · refine jj_tableIn (tgt := 1012) C dL_law_45 (by rw [h27_]; decide) (by rw [h27_]; decide) (by rw [h27_]; rfl) (by decide) ?_
        exact law_c27 hl C hX hbl hbA hL hn hb g gd x cz e1 e2 pR pC hx hC hR
      rcases jj_em ((xs (6 * n)) &&& 63 = 28) with h28_ | h28_
      · refine jj_tableIn (tgt := 1041) C dL_law_45 (by rw [h28_]; decide) (by rw [h28_]; decide) (by rw [h28_]; rfl) (by decide) ?_
        exact law_c28 hl C hX hbl hbA hL hn hb g gd x cz e1 e2 pR pC hx hC hR
      rcases jj_em ((xs (6 * n)) &&& 63 = 29) with h29_ | h29_
      · refine jj_tableIn (tgt := 1054) C dL_law_45 (by rw [h29_]; decide) (by rw [h29_]; decide) (by rw [h29_]; rfl) (by decide) ?_
        exact law_c29 hl C hX hbl hbA hL hn hb g gd x cz e1 e2 pR pC hx hC hR
      rcases jj_em ((xs (6 * n)) &&& 63 = 30) with h30_ | h30_
      · refine jj_tableIn (tgt := 1067) C dL_law_45 (by rw [h30_]; decide) (by rw [h30_]; decide) (by rw [h30_]; rfl) (by decide) ?_
        exact law_c30 hl C hX hbl hbA hL hn hb g gd x cz e1 e2 pR pC hx hC hR
      rcases jj_em ((xs (6 * n)) &&& 63 = 31) with h31_ | h31_
      · refine jj_tableIn (tgt := 1095) C dL_law_45 (by rw [h31_]; decide) (by rw [h31_]; decide) (by rw [h31_]; rfl) (by decide) ?_
        exact law_c31 hl C hX hbl hbA hL hn hb g gd x cz e1 e2 pR pC hx hC hR
      rcases jj_em ((xs (6 * n)) &&& 63 = 32) with h32_ | h32_
      · refine jj_tableIn (tgt := 1123) C dL_law_45 (by rw [h32_]; decide) (by rw [h32_]; decide) (by rw [h32_]; rfl) (by decide) ?_
        exact law_c32 hl C hX hbl hbA hL hn hb g gd x cz e1 e2 pR pC hx hC hR
      rcases jj_em ((xs (6 * n)) &&& 63 = 33) with h33_ | h33_
      · refine jj_tableIn (tgt := 1151) C dL_law_45 (by rw [h33_]; decide) (by rw [h33_]; decide) (by rw [h33_]; rfl) (by decide) ?_
        exact law_c33 hl C hX hbl hbA hL hn hb g gd x cz e1 e2 pR pC hx hC hR
      rcases jj_em ((xs (6 * n)) &&& 63 = 34) with h34_ | h34_
      · refine jj_tableIn (tgt := 1179) C dL_law_45 (by rw [h34_]; decide) (by rw [h34_]; decide) (by rw [h34_]; rfl) (by decide) ?_
        exact law_c34 hl C hX hbl hbA hL hn hb g gd x cz e1 e2 pR pC hx hC hR
      rcases jj_em ((xs (6 * n)) &&& 63 = 35) with h35_ | h35_
      · refine jj_tableIn (tgt := 1251) C dL_law_45 (by rw [h35_]; decide) (by rw [h35_]; decide) (by rw [h35_]; rfl) (by decide) ?_
        exact law_c35 hl C hX hbl hbA hL hn hb g gd x cz e1 e2 pR pC hx hC hR
      rcases jj_em ((xs (6 * n)) &&& 63 = 36) with h36_ | h36_
      · refine jj_tableIn (tgt := 1311) C dL_law_45 (by rw [h36_]; decide) (by rw [h36_]; decide) (by rw [h36_]; rfl) (by decide) ?_
        exact law_c36 hl C hX hbl hbA hL hn hb g gd x cz e1 e2 pR pC hx hC hR
      rcases jj_em ((xs (6 * n)) &&& 63 = 37) with h37_ | h37_
      · refine jj_tableIn (tgt := 1324) C dL_law_45 (by rw [h37_]; decide) (by rw [h37_]; decide) (by rw [h37_]; rfl) (by decide) ?_
        exact law_c37 hl C hX hbl hbA hL hn hb g gd x cz e1 e2 pR pC hx hC hR
      rcases jj_em ((xs (6 * n)) &&& 63 = 38) with h38_ | h38_
      · refine jj_tableIn (tgt := 1337) C dL_law_45 (by rw [h38_]; decide) (by rw [h38_]; decide) (by rw [h38_]; rfl) (by decide) ?_
        exact law_c38 hl C hX hbl hbA hL hn hb g gd x cz e1 e2 pR pC hx hC hR
      rcases jj_em ((xs (6 * n)) &&& 63 = 39) with h39_ | h39_
      · refine jj_tableIn (tgt := 1365) C dL_law_45 (by rw [h39_]; decide) (by rw [h39_]; decide) (by rw [h39_]; rfl) (by decide) ?_
        exact law_c39 hl C hX hbl hbA hL hn hb g gd x cz e1 e2 pR pC hx hC hR
      rcases jj_em ((xs (6 * n)) &&& 63 = 40) with h40_ | h40_
      · refine jj_tableIn (tgt := 1378) C dL_law_45 (by rw [h40_]; decide) (by rw [h40_]; decide) (by rw [h40_]; rfl) (by decide) ?_
        exact law_c40 hl C hX hbl hbA hL hn hb g gd x cz e1 e2 pR pC hx hC hR
      rcases jj_em ((xs (6 * n)) &&& 63 = 41) with h41_ | h41_
      · refine jj_tableIn (tgt := 1406) C dL_law_45 (by rw [h41_]; decide) (by rw [h41_]; decide) (by rw [h41_]; rfl) (by decide) ?_
        exact law_c41 hl C hX hbl hbA hL hn hb g gd x cz e1 e2 pR pC hx hC hR
      rcases jj_em ((xs (6 * n)) &&& 63 = 42) with h42_ | h42_
      · refine jj_tableIn (tgt := 1422) C dL_law_45 (by rw [h42_]; decide) (by rw [h42_]; decide) (by rw [h42_]; rfl) (by decide) ?_
        exact law_c42 hl C hX hbl hbA hL hn hb g gd x cz e1 e2 pR pC hx hC hR
      refine jj_tableOut (tgt := 1435) C dL_law_45 (by have z0 := lv_neT (a := 0) h0_ (by decide); have z1 := lv_neT (a := 1) h1_ (by decide); have z2 := lv_neT (a := 2) h2_ (by decide); have z3 := lv_neT (a := 3) h3_ (by decide); have z4 := lv_neT (a := 4) h4_ (by decide); have z5 := lv_neT (a := 5) h5_ (by decide); have z6 := lv_neT (a := 6) h6_ (by decide); have z7 := lv_neT (a := 7) h7_ (by decide); have z8 := lv_neT (a := 8) h8_ (by decide); have z9 := lv_neT (a := 9) h9_ (by decide); have z10 := lv_neT (a := 10) h10_ (by decide); have z11 := lv_neT (a := 11) h11_ (by decide); have z12 := lv_neT (a := 12) h12_ (by decide); have z13 := lv_neT (a := 13) h13_ (by decide); have z14 := lv_neT (a := 14) h14_ (by decide); have z15 := lv_neT (a := 15) h15_ (by decide); have z16 := lv_neT (a := 16) h16_ (by decide); have z17 := lv_neT (a := 17) h17_ (by decide); have z18 := lv_neT (a := 18) h18_ (by decide); have z19 := lv_neT (a := 19) h19_ (by decide); have z20 := lv_neT (a := 20) h20_ (by decide); have z21 := lv_neT (a := 21) h21_ (by decide); have z22 := lv_neT (a := 22) h22_ (by decide); have z23 := lv_neT (a := 23) h23_ (by decide); have z24 := lv_neT (a := 24) h24_ (by decide); have z25 := lv_neT (a := 25) h25_ (by decide); have z26 := lv_neT (a := 26) h26_ (by decide); have z27 := lv_neT (a := 27) h27_ (by decide); have z28 := lv_neT (a := 28) h28_ (by decide); have z29 := lv_neT (a := 29) h29_ (by decide); have z30 := lv_neT (a := 30) h30_ (by decide); have z31 := lv_neT (a := 31) h31_ (by decide); have z32 := lv_neT (a := 32) h32_ (by decide); have z33 := lv_neT (a := 33) h33_ (by decide); have z34 := lv_neT (a := 34) h34_ (by decide); have z35 := lv_neT (a := 35) h35_ (by decide); have z36 := lv_neT (a := 36) h36_ (by decide); have z37 := lv_neT (a := 37) h37_ (by decide); have z38 := lv_neT (a := 38) h38_ (by decide); have z39 := lv_neT (a := 39) h39_ (by decide); have z40 := lv_neT (a := 40) h40_ (by decide); have z41 := lv_neT (a := 41) h41_ (by decide); have z42 := lv_neT (a := 42) h42_ (by decide); omega) (by decide) ?_
      exact jj_widen (by omega) (by omega) (hb g gd x cz e1 e2 pR pC hx hC hR.up)
