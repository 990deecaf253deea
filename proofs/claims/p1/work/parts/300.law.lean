/-! the law: one call on a fresh object -/
section JLAW
variable {p : Program} {l : Launch} {e : Env} {R : Room} {s : State} {m : MethodId} {args : Array Value} {below : List Frame} {meth : Method} {c : Code} {nL : Nat} {A : Nat → Prop} {Q : State → Prop} {Wd : Heap → Prop} {cells slots pc : Nat} {lv : List (Nat × Value)} {st : List Value} {cc : ByteArray} {own : String} {ret : Option FieldType} {D : va_G} {cA : Nat → ClassId} {ak : (Nat → Nat) × (Nat → Nat)}
theorem jj_xlen (C : jj_C p l s m args meth c cc nL own ret D cA A ak) {b L : Nat} {xs : Nat → Int32} (hX : va_X b L xs s s.heap) (hbl : b < s.heap.size) (hbA : ¬ A b) {v : Int32} (hv : Int32.ofNat L = v) (hd : decode cc pc = .ok (.arraylength, 1)) (kk : jj_J p l e R s m args below meth c nL A Q Wd cells slots (pc + 1) lv (.int v :: st)) : jj_J p l e R s m args below meth c nL A Q Wd cells slots pc lv (.ref b :: st) :=
  fun H locs ls hW hS hl => va_slen C.1 C.2.1 hX hbl hbA hS hd (by rw [hv]; exact kk H locs ls hW hS hl)
theorem jj_xld (C : jj_C p l s m args meth c cc nL own ret D cA A ak) {b L : Nat} {xs : Nat → Int32} (hX : va_X b L xs s s.heap) (hbl : b < s.heap.size) (hbA : ¬ A b) {i v : Int32} (hin : vp_in i L) (hv : xs i.toNatClampNeg = v) (hd : decode cc pc = .ok (.iaload, 1)) (kk : jj_J p l e R s m args below meth c nL A Q Wd cells slots (pc + 1) lv (.int v :: st)) : jj_J p l e R s m args below meth c nL A Q Wd cells slots pc lv (.int i :: .ref b :: st) :=
  fun H locs ls hW hS hl => va_sld C.1 C.2.1 hX hbl hbA hS hin hd (by rw [hv]; exact kk H locs ls hW hS hl)
end JLAW
set_option maxHeartbeats 4000000 in
set_option maxRecDepth 100000 in
theorem law_to28 {p : Program} {l : Launch} {e : Env} {s : State} {m : MethodId} {below : List Frame} {meth : Method} {c : Code} (hl : l.stackTraces = false) {D : va_G} {cA : Nat → ClassId} {ak : (Nat → Nat) × (Nat → Nat)} {A : Nat → Prop} {b : Nat} {xs : Nat → Int32} {Q : State → Prop} (C : jj_C p l s m #[Value.ref b] meth c code 9 R_law ret D cA A ak) (hgo : ∀ (q_1 q_4 q_5 q_6 q_7 q_8 q_9 q_10 q_11 q_12 q_13 q_14 q_15 q_16 q_17 q_18 q_19 q_20 q_21 q_22 q_23 q_28 q_31 q_32 q_33 q_34 q_35 q_36 q_37 q_38 q_39 q_40 q_41 q_42 q_43 q_44 : Nat) (f_24 : Nat → Option Nat) (f_25 : Nat → Option Nat) (c_26 : f_24 0 = some q_11) (c_27 : f_25 0 = some q_17), jj_J p l e room_1 s m #[Value.ref b] below meth c 9 A Q (jj_X D A [(q_1, .inr (11, [.ref q_4, .int 0, .int (-1), .ref q_6, .ref q_12, .ref q_18, .ref q_20, .int 0, .int 0, .ref q_21])), (q_4, .inr (10, [.ref q_5, .int 0, .int 0, .int 0, .int 0, .int 0, .int (-1)])), (q_5, .inl (cA 1, 400, .inl (fun _ => 0))), (q_6, .inr (2, [.int 1, .int 0, .int 0, .int 0, .int 100, .int 0, .int 0, .int 0, .int 0, .int 0, .ref q_7, .ref q_8, .ref q_9, .ref q_10])), (q_7, .inl (cA 2, 6, .inr (.inl (fun _ => 0)))), (q_10, .inl (cA 7, 12, .inr (.inr (.inr (.inr f_24))))), (q_11, .inr (7, [.int 0, .int 0, .int 0, .long 0, .long 0])), (q_12, .inr (2, [.int 1, .int 0, .int 0, .int 0, .int 100, .int 0, .int 0, .int 0, .int 0, .int 0, .ref q_13, .ref q_14, .ref q_15, .ref q_16])), (q_13, .inl (cA 2, 6, .inr (.inl (fun _ => 0)))), (q_16, .inl (cA 7, 12, .inr (.inr (.inr (.inr f_25))))), (q_17, .inr (7, [.int 0, .int 0, .int 0, .long 0, .long 0])), (q_18, .inr (3, [.ref q_19, .long 0, .long 0, .long 0, .long 0, .long 0])), (q_20, .inl (cA 5, 10, .inr (.inr (.inr (.inr (fun _ => none)))))), (q_21, .inr (6, [.ref q_22, .int 0, .ref q_23])), (q_22, .inl (cA 0, 1300, .inl (fun _ => 0))), (q_23, .inl (cA 0, 20, .inl (fun _ => 0))), (q_28, .inr (12, [.ref q_31, .ref q_32, .ref q_33, .ref q_34, .ref q_35, .ref q_36, .int 0, .int 0, .long 0, .long 0, .ref q_37, .ref q_38, .ref q_39, .int 0, .int 0, .int 0, .int 0, .int 0, .int (-1), .int 0, .int 0, .ref q_40, .ref q_41, .ref q_42, .int 0])), (q_32, .inl (cA 2, 334, .inr (.inl (fun _ => 0)))), (q_33, .inl (cA 2, 334, .inr (.inl (fun _ => 0)))), (q_34, .inl (cA 2, 334, .inr (.inl (fun _ => 0)))), (q_35, .inl (cA 2, 334, .inr (.inl (fun _ => 0)))), (q_36, .inl (cA 2, 3340, .inr (.inl (fun _ => 0)))), (q_37, .inl (cA 2, 12, .inr (.inl (fun _ => 0)))), (q_38, .inl (cA 3, 12, .inl (fun _ => 0))), (q_39, .inl (cA 0, 400, .inl (fun _ => 0))), (q_40, .inl (cA 2, 6, .inr (.inl (fun _ => 0)))), (q_41, .inl (cA 2, 6, .inr (.inl (fun _ => 0)))), (q_42, .inl (cA 0, 2400, .inl (fun _ => 0))), (q_31, .inl (cA 2, 334, .inr (.inl (vp_updL (vp_updL (fun _ => 0) 0 1) 4 100)))), (q_43, .inl (cA 2, 1, .inr (.inl (fun _ => 0)))), (q_44, .inl (cA 4, 1, .inr (.inr (.inr (.inl (fun _ => 0))))))]) 156 10481 28 [(5, .int 0), (4, .ref q_44), (3, .ref q_43), (2, .ref q_28), (1, .ref q_1), (0, .ref b)] []) : jj_J p l e room_1 s m #[Value.ref b] below meth c 9 A Q (jj_X D A []) 0 0 0 [(0, .ref b)] [] := by
  refine jj_new (wt := []) C jk_11 jw_968 jw_969 jw_271 jd_11 (jj_le rfl) (jj_le rfl) dL_law_0 (fun q_1 => ?_)
  refine jj_apd rfl ?_
  refine jj_dup C dL_law_3 rfl ?_
  refine jq_callI (rest := [.ref q_1]) C (ct_X10_init_1 hl D cA ak q_1) [0] [] rfl rfl (by decide) (by decide) (by decide) jw_970 jw_971 jw_271 jw_179 rfl jn_X10_init rfl (jj_le rfl) (jj_le rfl) (jj_le rfl) (jj_le rfl) (jj_le rfl) dL_law_4 rfl (fun w1 r O_3 => ?_)
  obtain ⟨q_4, q_5, q_6, q_7, q_8, q_9, q_10, q_11, q_12, q_13, q_14, q_15, q_16, q_17, q_18, q_19, q_20, q_21, q_22, q_23, f_24, f_25, c_26, c_27, rfl, rfl⟩ := O_3
  refine jj_apd rfl ?_
  refine jj_astore_n C dL_law_7 (by decide) rfl ?_
  refine jj_new (wt := []) C jk_12 jw_973 jw_974 jw_224 jd_12 (jj_le rfl) (jj_le rfl) dL_law_8 (fun q_28 => ?_)
  refine jj_apd rfl ?_
  refine jj_dup C dL_law_11 rfl ?_
  refine jq_callI (rest := [.ref q_28]) C (ct_X11_init_1 hl D cA ak q_28) [16] [0, 1, 2, 3, 4, 5, 6, 7, 8, 9, 10, 11, 12, 13, 14, 15] rfl rfl (by decide) (by decide) (by decide) jw_975 jw_976 jw_224 jw_227 rfl jn_X11_init rfl (jj_le rfl) (jj_le rfl) (jj_le rfl) (jj_le rfl) (jj_le rfl) dL_law_12 rfl (fun w1 r O_30 => ?_)
  obtain ⟨q_31, q_32, q_33, q_34, q_35, q_36, q_37, q_38, q_39, q_40, q_41, q_42, rfl, rfl⟩ := O_30
  refine jj_apd rfl ?_
  refine jj_astore_n C dL_law_15 (by decide) rfl ?_
  refine jj_iconst (v := 1) C dL_law_16 (by decide) ?_
  refine jj_newa (atype := .long) (fty := .long) (N' := 1) C 2 rfl rfl jw_69 (a0 := (1, .inr (.inl (fun _ => 0)))) (fun _ => rfl) (by decide) (by decide) (jj_le rfl) (jj_le rfl) (jj_le rfl) dL_law_17 (fun q_43 => ?_)
  refine jj_apd rfl ?_
  refine jj_astore_n C dL_law_19 (by decide) rfl ?_
  refine jj_iconst (v := 1) C dL_law_20 (by decide) ?_
  refine jj_newa (atype := .double) (fty := .double) (N' := 1) C 4 rfl rfl jw_978 (a0 := (1, .inr (.inr (.inr (.inl (fun _ => 0)))))) (fun _ => rfl) (by decide) (by decide) (jj_le rfl) (jj_le rfl) (jj_le rfl) dL_law_21 (fun q_44 => ?_)
  refine jj_apd rfl ?_
  refine jj_astore C dL_law_23 (by decide) rfl ?_
  refine jj_iconst (v := 0) C dL_law_25 (by decide) ?_
  refine jj_istore C dL_law_26 (by decide) rfl ?_
  exact hgo q_1 q_4 q_5 q_6 q_7 q_8 q_9 q_10 q_11 q_12 q_13 q_14 q_15 q_16 q_17 q_18 q_19 q_20 q_21 q_22 q_23 q_28 q_31 q_32 q_33 q_34 q_35 q_36 q_37 q_38 q_39 q_40 q_41 q_42 q_43 q_44 f_24 f_25 c_26 c_27

set_option maxHeartbeats 4000000 in
set_option maxRecDepth 100000 in
theorem law_L0 {p : Program} {l : Launch} {e : Env} {s : State} {m : MethodId} {below : List Frame} {meth : Method} {c : Code} (hl : l.stackTraces = false) {D : va_G} {cA : Nat → ClassId} {ak : (Nat → Nat) × (Nat → Nat)} {A : Nat → Prop} {b : Nat} {xs : Nat → Int32} {Q : State → Prop} (C : jj_C p l s m #[Value.ref b] meth c code 9 R_law ret D cA A ak) (hX : va_X b 0 xs s s.heap) (hbl : b < s.heap.size) (hbA : ¬ A b) (hret : jj_J p l e room_1 s m #[Value.ref b] below meth c 9 A Q (jj_X D A []) 600006 7302072 2265 [(0, .ref b)] []) (q_1 q_4 q_5 q_6 q_7 q_8 q_9 q_10 q_11 q_12 q_13 q_14 q_15 q_16 q_17 q_18 q_19 q_20 q_21 q_22 q_23 q_28 q_31 q_32 q_33 q_34 q_35 q_36 q_37 q_38 q_39 q_40 q_41 q_42 q_43 q_44 : Nat) (f_24 : Nat → Option Nat) (f_25 : Nat → Option Nat) (c_26 : f_24 0 = some q_11) (c_27 : f_25 0 = some q_17) : jj_J p l e room_1 s m #[Value.ref b] below meth c 9 A Q (jj_X D A [(q_1, .inr (11, [.ref q_4, .int 0, .int (-1), .ref q_6, .ref q_12, .ref q_18, .ref q_20, .int 0, .int 0, .ref q_21])), (q_4, .inr (10, [.ref q_5, .int 0, .int 0, .int 0, .int 0, .int 0, .int (-1)])), (q_5, .inl (cA 1, 400, .inl (fun _ => 0))), (q_6, .inr (2, [.int 1, .int 0, .int 0, .int 0, .int 100, .int 0, .int 0, .int 0, .int 0, .int 0, .ref q_7, .ref q_8, .ref q_9, .ref q_10])), (q_7, .inl (cA 2, 6, .inr (.inl (fun _ => 0)))), (q_10, .inl (cA 7, 12, .inr (.inr (.inr (.inr f_24))))), (q_11, .inr (7, [.int 0, .int 0, .int 0, .long 0, .long 0])), (q_12, .inr (2, [.int 1, .int 0, .int 0, .int 0, .int 100, .int 0, .int 0, .int 0, .int 0, .int 0, .ref q_13, .ref q_14, .ref q_15, .ref q_16])), (q_13, .inl (cA 2, 6, .inr (.inl (fun _ => 0)))), (q_16, .inl (cA 7, 12, .inr (.inr (.inr (.inr f_25))))), (q_17, .inr (7, [.int 0, .int 0, .int 0, .long 0, .long 0])), (q_18, .inr (3, [.ref q_19, .long 0, .long 0, .long 0, .long 0, .long 0])), (q_20, .inl (cA 5, 10, .inr (.inr (.inr (.inr (fun _ => none)))))), (q_21, .inr (6, [.ref q_22, .int 0, .ref q_23])), (q_22, .inl (cA 0, 1300, .inl (fun _ => 0))), (q_23, .inl (cA 0, 20, .inl (fun _ => 0))), (q_28, .inr (12, [.ref q_31, .ref q_32, .ref q_33, .ref q_34, .ref q_35, .ref q_36, .int 0, .int 0, .long 0, .long 0, .ref q_37, .ref q_38, .ref q_39, .int 0, .int 0, .int 0, .int 0, .int 0, .int (-1), .int 0, .int 0, .ref q_40, .ref q_41, .ref q_42, .int 0])), (q_32, .inl (cA 2, 334, .inr (.inl (fun _ => 0)))), (q_33, .inl (cA 2, 334, .inr (.inl (fun _ => 0)))), (q_34, .inl (cA 2, 334, .inr (.inl (fun _ => 0)))), (q_35, .inl (cA 2, 334, .inr (.inl (fun _ => 0)))), (q_36, .inl (cA 2, 3340, .inr (.inl (fun _ => 0)))), (q_37, .inl (cA 2, 12, .inr (.inl (fun _ => 0)))), (q_38, .inl (cA 3, 12, .inl (fun _ => 0))), (q_39, .inl (cA 0, 400, .inl (fun _ => 0))), (q_40, .inl (cA 2, 6, .inr (.inl (fun _ => 0)))), (q_41, .inl (cA 2, 6, .inr (.inl (fun _ => 0)))), (q_42, .inl (cA 0, 2400, .inl (fun _ => 0))), (q_31, .inl (cA 2, 334, .inr (.inl (vp_updL (vp_updL (fun _ => 0) 0 1) 4 100)))), (q_43, .inl (cA 2, 1, .inr (.inl (fun _ => 0)))), (q_44, .inl (cA 4, 1, .inr (.inr (.inr (.inl (fun _ => 0))))))]) 156 10481 28 [(5, .int 0), (4, .ref q_44), (3, .ref q_43), (2, .ref q_28), (1, .ref q_1), (0, .ref b)] [] := by
  refine jj_iload C dL_law_28 rfl ?_
  refine jj_aload_n C dL_law_30 rfl ?_
  refine jj_xlen (v := 0) C hX hbl hbA (by decide) dL_law_31 ?_
  refine jj_bipush (v := 6) C dL_law_32 (by decide) ?_
  refine jj_isub (v := (-6)) C dL_law_34 (by decide) ?_
  refine jj_icmp_gtT (tgt := 2265) C dL_law_35 (by decide) (by decide) ?_
  exact jj_loc [5] rfl (jj_drop [] rfl (by decide) (jj_widen (k := 600006) (n := 7302072) (jj_le rfl) (jj_le rfl) hret))

set_option maxHeartbeats 4000000 in
set_option maxRecDepth 100000 in
theorem law_L1 {p : Program} {l : Launch} {e : Env} {s : State} {m : MethodId} {below : List Frame} {meth : Method} {c : Code} (hl : l.stackTraces = false) {D : va_G} {cA : Nat → ClassId} {ak : (Nat → Nat) × (Nat → Nat)} {A : Nat → Prop} {b : Nat} {xs : Nat → Int32} {Q : State → Prop} (C : jj_C p l s m #[Value.ref b] meth c code 9 R_law ret D cA A ak) (hX : va_X b 1 xs s s.heap) (hbl : b < s.heap.size) (hbA : ¬ A b) (hret : jj_J p l e room_1 s m #[Value.ref b] below meth c 9 A Q (jj_X D A []) 600006 7302072 2265 [(0, .ref b)] []) (q_1 q_4 q_5 q_6 q_7 q_8 q_9 q_10 q_11 q_12 q_13 q_14 q_15 q_16 q_17 q_18 q_19 q_20 q_21 q_22 q_23 q_28 q_31 q_32 q_33 q_34 q_35 q_36 q_37 q_38 q_39 q_40 q_41 q_42 q_43 q_44 : Nat) (f_24 : Nat → Option Nat) (f_25 : Nat → Option Nat) (c_26 : f_24 0 = some q_11) (c_27 : f_25 0 = some q_17) : jj_J p l e room_1 s m #[Value.ref b] below meth c 9 A Q (jj_X D A [(q_1, .inr (11, [.ref q_4, .int 0, .int (-1), .ref q_6, .ref q_12, .ref q_18, .ref q_20, .int 0, .int 0, .ref q_21])), (q_4, .inr (10, [.ref q_5, .int 0, .int 0, .int 0, .int 0, .int 0, .int (-1)])), (q_5, .inl (cA 1, 400, .inl (fun _ => 0))), (q_6, .inr (2, [.int 1, .int 0, .int 0, .int 0, .int 100, .int 0, .int 0, .int 0, .int 0, .int 0, .ref q_7, .ref q_8, .ref q_9, .ref q_10])), (q_7, .inl (cA 2, 6, .inr (.inl (fun _ => 0)))), (q_10, .inl (cA 7, 12, .inr (.inr (.inr (.inr f_24))))), (q_11, .inr (7, [.int 0, .int 0, .int 0, .long 0, .long 0])), (q_12, .inr (2, [.int 1, .int 0, .int 0, .int 0, .int 100, .int 0, .int 0, .int 0, .int 0, .int 0, .ref q_13, .ref q_14, .ref q_15, .ref q_16])), (q_13, .inl (cA 2, 6, .inr (.inl (fun _ => 0)))), (q_16, .inl (cA 7, 12, .inr (.inr (.inr (.inr f_25))))), (q_17, .inr (7, [.int 0, .int 0, .int 0, .long 0, .long 0])), (q_18, .inr (3, [.ref q_19, .long 0, .long 0, .long 0, .long 0, .long 0])), (q_20, .inl (cA 5, 10, .inr (.inr (.inr (.inr (fun _ => none)))))), (q_21, .inr (6, [.ref q_22, .int 0, .ref q_23])), (q_22, .inl (cA 0, 1300, .inl (fun _ => 0))), (q_23, .inl (cA 0, 20, .inl (fun _ => 0))), (q_28, .inr (12, [.ref q_31, .ref q_32, .ref q_33, .ref q_34, .ref q_35, .ref q_36, .int 0, .int 0, .long 0, .long 0, .ref q_37, .ref q_38, .ref q_39, .int 0, .int 0, .int 0, .int 0, .int 0, .int (-1), .int 0, .int 0, .ref q_40, .ref q_41, .ref q_42, .int 0])), (q_32, .inl (cA 2, 334, .inr (.inl (fun _ => 0)))), (q_33, .inl (cA 2, 334, .inr (.inl (fun _ => 0)))), (q_34, .inl (cA 2, 334, .inr (.inl (fun _ => 0)))), (q_35, .inl (cA 2, 334, .inr (.inl (fun _ => 0)))), (q_36, .inl (cA 2, 3340, .inr (.inl (fun _ => 0)))), (q_37, .inl (cA 2, 12, .inr (.inl (fun _ => 0)))), (q_38, .inl (cA 3, 12, .inl (fun _ => 0))), (q_39, .inl (cA 0, 400, .inl (fun _ => 0))), (q_40, .inl (cA 2, 6, .inr (.inl (fun _ => 0)))), (q_41, .inl (cA 2, 6, .inr (.inl (fun _ => 0)))), (q_42, .inl (cA 0, 2400, .inl (fun _ => 0))), (q_31, .inl (cA 2, 334, .inr (.inl (vp_updL (vp_updL (fun _ => 0) 0 1) 4 100)))), (q_43, .inl (cA 2, 1, .inr (.inl (fun _ => 0)))), (q_44, .inl (cA 4, 1, .inr (.inr (.inr (.inl (fun _ => 0))))))]) 156 10481 28 [(5, .int 0), (4, .ref q_44), (3, .ref q_43), (2, .ref q_28), (1, .ref q_1), (0, .ref b)] [] := by
  refine jj_iload C dL_law_28 rfl ?_
  refine jj_aload_n C dL_law_30 rfl ?_
  refine jj_xlen (v := 1) C hX hbl hbA (by decide) dL_law_31 ?_
  refine jj_bipush (v := 6) C dL_law_32 (by decide) ?_
  refine jj_isub (v := (-5)) C dL_law_34 (by decide) ?_
  refine jj_icmp_gtT (tgt := 2265) C dL_law_35 (by decide) (by decide) ?_
  exact jj_loc [5] rfl (jj_drop [] rfl (by decide) (jj_widen (k := 600006) (n := 7302072) (jj_le rfl) (jj_le rfl) hret))

set_option maxHeartbeats 4000000 in
set_option maxRecDepth 100000 in
theorem law_L2 {p : Program} {l : Launch} {e : Env} {s : State} {m : MethodId} {below : List Frame} {meth : Method} {c : Code} (hl : l.stackTraces = false) {D : va_G} {cA : Nat → ClassId} {ak : (Nat → Nat) × (Nat → Nat)} {A : Nat → Prop} {b : Nat} {xs : Nat → Int32} {Q : State → Prop} (C : jj_C p l s m #[Value.ref b] meth c code 9 R_law ret D cA A ak) (hX : va_X b 2 xs s s.heap) (hbl : b < s.heap.size) (hbA : ¬ A b) (hret : jj_J p l e room_1 s m #[Value.ref b] below meth c 9 A Q (jj_X D A []) 600006 7302072 2265 [(0, .ref b)] []) (q_1 q_4 q_5 q_6 q_7 q_8 q_9 q_10 q_11 q_12 q_13 q_14 q_15 q_16 q_17 q_18 q_19 q_20 q_21 q_22 q_23 q_28 q_31 q_32 q_33 q_34 q_35 q_36 q_37 q_38 q_39 q_40 q_41 q_42 q_43 q_44 : Nat) (f_24 : Nat → Option Nat) (f_25 : Nat → Option Nat) (c_26 : f_24 0 = some q_11) (c_27 : f_25 0 = some q_17) : jj_J p l e room_1 s m #[Value.ref b] below meth c 9 A Q (jj_X D A [(q_1, .inr (11, [.ref q_4, .int 0, .int (-1), .ref q_6, .ref q_12, .ref q_18, .ref q_20, .int 0, .int 0, .ref q_21])), (q_4, .inr (10, [.ref q_5, .int 0, .int 0, .int 0, .int 0, .int 0, .int (-1)])), (q_5, .inl (cA 1, 400, .inl (fun _ => 0))), (q_6, .inr (2, [.int 1, .int 0, .int 0, .int 0, .int 100, .int 0, .int 0, .int 0, .int 0, .int 0, .ref q_7, .ref q_8, .ref q_9, .ref q_10])), (q_7, .inl (cA 2, 6, .inr (.inl (fun _ => 0)))), (q_10, .inl (cA 7, 12, .inr (.inr (.inr (.inr f_24))))), (q_11, .inr (7, [.int 0, .int 0, .int 0, .long 0, .long 0])), (q_12, .inr (2, [.int 1, .int 0, .int 0, .int 0, .int 100, .int 0, .int 0, .int 0, .int 0, .int 0, .ref q_13, .ref q_14, .ref q_15, .ref q_16])), (q_13, .inl (cA 2, 6, .inr (.inl (fun _ => 0)))), (q_16, .inl (cA 7, 12, .inr (.inr (.inr (.inr f_25))))), (q_17, .inr (7, [.int 0, .int 0, .int 0, .long 0, .long 0])), (q_18, .inr (3, [.ref q_19, .long 0, .long 0, .long 0, .long 0, .long 0])), (q_20, .inl (cA 5, 10, .inr (.inr (.inr (.inr (fun _ => none)))))), (q_21, .inr (6, [.ref q_22, .int 0, .ref q_23])), (q_22, .inl (cA 0, 1300, .inl (fun _ => 0))), (q_23, .inl (cA 0, 20, .inl (fun _ => 0))), (q_28, .inr (12, [.ref q_31, .ref q_32, .ref q_33, .ref q_34, .ref q_35, .ref q_36, .int 0, .int 0, .long 0, .long 0, .ref q_37, .ref q_38, .ref q_39, .int 0, .int 0, .int 0, .int 0, .int 0, .int (-1), .int 0, .int 0, .ref q_40, .ref q_41, .ref q_42, .int 0])), (q_32, .inl (cA 2, 334, .inr (.inl (fun _ => 0)))), (q_33, .inl (cA 2, 334, .inr (.inl (fun _ => 0)))), (q_34, .inl (cA 2, 334, .inr (.inl (fun _ => 0)))), (q_35, .inl (cA 2, 334, .inr (.inl (fun _ => 0)))), (q_36, .inl (cA 2, 3340, .inr (.inl (fun _ => 0)))), (q_37, .inl (cA 2, 12, .inr (.inl (fun _ => 0)))), (q_38, .inl (cA 3, 12, .inl (fun _ => 0))), (q_39, .inl (cA 0, 400, .inl (fun _ => 0))), (q_40, .inl (cA 2, 6, .inr (.inl (fun _ => 0)))), (q_41, .inl (cA 2, 6, .inr (.inl (fun _ => 0)))), (q_42, .inl (cA 0, 2400, .inl (fun _ => 0))), (q_31, .inl (cA 2, 334, .inr (.inl (vp_updL (vp_updL (fun _ => 0) 0 1) 4 100)))), (q_43, .inl (cA 2, 1, .inr (.inl (fun _ => 0)))), (q_44, .inl (cA 4, 1, .inr (.inr (.inr (.inl (fun _ => 0))))))]) 156 10481 28 [(5, .int 0), (4, .ref q_44), (3, .ref q_43), (2, .ref q_28), (1, .ref q_1), (0, .ref b)] [] := by
  refine jj_iload C dL_law_28 rfl ?_
  refine jj_aload_n C dL_law_30 rfl ?_
  refine jj_xlen (v := 2) C hX hbl hbA (by decide) dL_law_31 ?_
  refine jj_bipush (v := 6) C dL_law_32 (by decide) ?_
  refine jj_isub (v := (-4)) C dL_law_34 (by decide) ?_
  refine jj_icmp_gtT (tgt := 2265) C dL_law_35 (by decide) (by decide) ?_
  exact jj_loc [5] rfl (jj_drop [] rfl (by decide) (jj_widen (k := 600006) (n := 7302072) (jj_le rfl) (jj_le rfl) hret))

set_option maxHeartbeats 4000000 in
set_option maxRecDepth 100000 in
theorem law_L3 {p : Program} {l : Launch} {e : Env} {s : State} {m : MethodId} {below : List Frame} {meth : Method} {c : Code} (hl : l.stackTraces = false) {D : va_G} {cA : Nat → ClassId} {ak : (Nat → Nat) × (Nat → Nat)} {A : Nat → Prop} {b : Nat} {xs : Nat → Int32} {Q : State → Prop} (C : jj_C p l s m #[Value.ref b] meth c code 9 R_law ret D cA A ak) (hX : va_X b 3 xs s s.heap) (hbl : b < s.heap.size) (hbA : ¬ A b) (hret : jj_J p l e room_1 s m #[Value.ref b] below meth c 9 A Q (jj_X D A []) 600006 7302072 2265 [(0, .ref b)] []) (q_1 q_4 q_5 q_6 q_7 q_8 q_9 q_10 q_11 q_12 q_13 q_14 q_15 q_16 q_17 q_18 q_19 q_20 q_21 q_22 q_23 q_28 q_31 q_32 q_33 q_34 q_35 q_36 q_37 q_38 q_39 q_40 q_41 q_42 q_43 q_44 : Nat) (f_24 : Nat → Option Nat) (f_25 : Nat → Option Nat) (c_26 : f_24 0 = some q_11) (c_27 : f_25 0 = some q_17) : jj_J p l e room_1 s m #[Value.ref b] below meth c 9 A Q (jj_X D A [(q_1, .inr (11, [.ref q_4, .int 0, .int (-1), .ref q_6, .ref q_12, .ref q_18, .ref q_20, .int 0, .int 0, .ref q_21])), (q_4, .inr (10, [.ref q_5, .int 0, .int 0, .int 0, .int 0, .int 0, .int (-1)])), (q_5, .inl (cA 1, 400, .inl (fun _ => 0))), (q_6, .inr (2, [.int 1, .int 0, .int 0, .int 0, .int 100, .int 0, .int 0, .int 0, .int 0, .int 0, .ref q_7, .ref q_8, .ref q_9, .ref q_10])), (q_7, .inl (cA 2, 6, .inr (.inl (fun _ => 0)))), (q_10, .inl (cA 7, 12, .inr (.inr (.inr (.inr f_24))))), (q_11, .inr (7, [.int 0, .int 0, .int 0, .long 0, .long 0])), (q_12, .inr (2, [.int 1, .int 0, .int 0, .int 0, .int 100, .int 0, .int 0, .int 0, .int 0, .int 0, .ref q_13, .ref q_14, .ref q_15, .ref q_16])), (q_13, .inl (cA 2, 6, .inr (.inl (fun _ => 0)))), (q_16, .inl (cA 7, 12, .inr (.inr (.inr (.inr f_25))))), (q_17, .inr (7, [.int 0, .int 0, .int 0, .long 0, .long 0])), (q_18, .inr (3, [.ref q_19, .long 0, .long 0, .long 0, .long 0, .long 0])), (q_20, .inl (cA 5, 10, .inr (.inr (.inr (.inr (fun _ => none)))))), (q_21, .inr (6, [.ref q_22, .int 0, .ref q_23])), (q_22, .inl (cA 0, 1300, .inl (fun _ => 0))), (q_23, .inl (cA 0, 20, .inl (fun _ => 0))), (q_28, .inr (12, [.ref q_31, .ref q_32, .ref q_33, .ref q_34, .ref q_35, .ref q_36, .int 0, .int 0, .long 0, .long 0, .ref q_37, .ref q_38, .ref q_39, .int 0, .int 0, .int 0, .int 0, .int 0, .int (-1), .int 0, .int 0, .ref q_40, .ref q_41, .ref q_42, .int 0])), (q_32, .inl (cA 2, 334, .inr (.inl (fun _ => 0)))), (q_33, .inl (cA 2, 334, .inr (.inl (fun _ => 0)))), (q_34, .inl (cA 2, 334, .inr (.inl (fun _ => 0)))), (q_35, .inl (cA 2, 334, .inr (.inl (fun _ => 0)))), (q_36, .inl (cA 2, 3340, .inr (.inl (fun _ => 0)))), (q_37, .inl (cA 2, 12, .inr (.inl (fun _ => 0)))), (q_38, .inl (cA 3, 12, .inl (fun _ => 0))), (q_39, .inl (cA 0, 400, .inl (fun _ => 0))), (q_40, .inl (cA 2, 6, .inr (.inl (fun _ => 0)))), (q_41, .inl (cA 2, 6, .inr (.inl (fun _ => 0)))), (q_42, .inl (cA 0, 2400, .inl (fun _ => 0))), (q_31, .inl (cA 2, 334, .inr (.inl (vp_updL (vp_updL (fun _ => 0) 0 1) 4 100)))), (q_43, .inl (cA 2, 1, .inr (.inl (fun _ => 0)))), (q_44, .inl (cA 4, 1, .inr (.inr (.inr (.inl (fun _ => 0))))))]) 156 10481 28 [(5, .int 0), (4, .ref q_44), (3, .ref q_43), (2, .ref q_28), (1, .ref q_1), (0, .ref b)] [] := by
  refine jj_iload C dL_law_28 rfl ?_
  refine jj_aload_n C dL_law_30 rfl ?_
  refine jj_xlen (v := 3) C hX hbl hbA (by decide) dL_law_31 ?_
  refine jj_bipush (v := 6) C dL_law_32 (by decide) ?_
  refine jj_isub (v := (-3)) C dL_law_34 (by decide) ?_
  refine jj_icmp_gtT (tgt := 2265) C dL_law_35 (by decide) (by decide) ?_
  exact jj_loc [5] rfl (jj_drop [] rfl (by decide) (jj_widen (k := 600006) (n := 7302072) (jj_le rfl) (jj_le rfl) hret))

set_option maxHeartbeats 4000000 in
set_option maxRecDepth 100000 in
theorem law_L4 {p : Program} {l : Launch} {e : Env} {s : State} {m : MethodId} {below : List Frame} {meth : Method} {c : Code} (hl : l.stackTraces = false) {D : va_G} {cA : Nat → ClassId} {ak : (Nat → Nat) × (Nat → Nat)} {A : Nat → Prop} {b : Nat} {xs : Nat → Int32} {Q : State → Prop} (C : jj_C p l s m #[Value.ref b] meth c code 9 R_law ret D cA A ak) (hX : va_X b 4 xs s s.heap) (hbl : b < s.heap.size) (hbA : ¬ A b) (hret : jj_J p l e room_1 s m #[Value.ref b] below meth c 9 A Q (jj_X D A []) 600006 7302072 2265 [(0, .ref b)] []) (q_1 q_4 q_5 q_6 q_7 q_8 q_9 q_10 q_11 q_12 q_13 q_14 q_15 q_16 q_17 q_18 q_19 q_20 q_21 q_22 q_23 q_28 q_31 q_32 q_33 q_34 q_35 q_36 q_37 q_38 q_39 q_40 q_41 q_42 q_43 q_44 : Nat) (f_24 : Nat → Option Nat) (f_25 : Nat → Option Nat) (c_26 : f_24 0 = some q_11) (c_27 : f_25 0 = some q_17) : jj_J p l e room_1 s m #[Value.ref b] below meth c 9 A Q (jj_X D A [(q_1, .inr (11, [.ref q_4, .int 0, .int (-1), .ref q_6, .ref q_12, .ref q_18, .ref q_20, .int 0, .int 0, .ref q_21])), (q_4, .inr (10, [.ref q_5, .int 0, .int 0, .int 0, .int 0, .int 0, .int (-1)])), (q_5, .inl (cA 1, 400, .inl (fun _ => 0))), (q_6, .inr (2, [.int 1, .int 0, .int 0, .int 0, .int 100, .int 0, .int 0, .int 0, .int 0, .int 0, .ref q_7, .ref q_8, .ref q_9, .ref q_10])), (q_7, .inl (cA 2, 6, .inr (.inl (fun _ => 0)))), (q_10, .inl (cA 7, 12, .inr (.inr (.inr (.inr f_24))))), (q_11, .inr (7, [.int 0, .int 0, .int 0, .long 0, .long 0])), (q_12, .inr (2, [.int 1, .int 0, .int 0, .int 0, .int 100, .int 0, .int 0, .int 0, .int 0, .int 0, .ref q_13, .ref q_14, .ref q_15, .ref q_16])), (q_13, .inl (cA 2, 6, .inr (.inl (fun _ => 0)))), (q_16, .inl (cA 7, 12, .inr (.inr (.inr (.inr f_25))))), (q_17, .inr (7, [.int 0, .int 0, .int 0, .long 0, .long 0])), (q_18, .inr (3, [.ref q_19, .long 0, .long 0, .long 0, .long 0, .long 0])), (q_20, .inl (cA 5, 10, .inr (.inr (.inr (.inr (fun _ => none)))))), (q_21, .inr (6, [.ref q_22, .int 0, .ref q_23])), (q_22, .inl (cA 0, 1300, .inl (fun _ => 0))), (q_23, .inl (cA 0, 20, .inl (fun _ => 0))), (q_28, .inr (12, [.ref q_31, .ref q_32, .ref q_33, .ref q_34, .ref q_35, .ref q_36, .int 0, .int 0, .long 0, .long 0, .ref q_37, .ref q_38, .ref q_39, .int 0, .int 0, .int 0, .int 0, .int 0, .int (-1), .int 0, .int 0, .ref q_40, .ref q_41, .ref q_42, .int 0])), (q_32, .inl (cA 2, 334, .inr (.inl (fun _ => 0)))), (q_33, .inl (cA 2, 334, .inr (.inl (fun _ => 0)))), (q_34, .inl (cA 2, 334, .inr (.inl (fun _ => 0)))), (q_35, .inl (cA 2, 334, .inr (.inl (fun _ => 0)))), (q_36, .inl (cA 2, 3340, .inr (.inl (fun _ => 0)))), (q_37, .inl (cA 2, 12, .inr (.inl (fun _ => 0)))), (q_38, .inl (cA 3, 12, .inl (fun _ => 0))), (q_39, .inl (cA 0, 400, .inl (fun _ => 0))), (q_40, .inl (cA 2, 6, .inr (.inl (fun _ => 0)))), (q_41, .inl (cA 2, 6, .inr (.inl (fun _ => 0)))), (q_42, .inl (cA 0, 2400, .inl (fun _ => 0))), (q_31, .inl (cA 2, 334, .inr (.inl (vp_updL (vp_updL (fun _ => 0) 0 1) 4 100)))), (q_43, .inl (cA 2, 1, .inr (.inl (fun _ => 0)))), (q_44, .inl (cA 4, 1, .inr (.inr (.inr (.inl (fun _ => 0))))))]) 156 10481 28 [(5, .int 0), (4, .ref q_44), (3, .ref q_43), (2, .ref q_28), (1, .ref q_1), (0, .ref b)] [] := by
  refine jj_iload C dL_law_28 rfl ?_
  refine jj_aload_n C dL_law_30 rfl ?_
  refine jj_xlen (v := 4) C hX hbl hbA (by decide) dL_law_31 ?_
  refine jj_bipush (v := 6) C dL_law_32 (by decide) ?_
  refine jj_isub (v := (-2)) C dL_law_34 (by decide) ?_
  refine jj_icmp_gtT (tgt := 2265) C dL_law_35 (by decide) (by decide) ?_
  exact jj_loc [5] rfl (jj_drop [] rfl (by decide) (jj_widen (k := 600006) (n := 7302072) (jj_le rfl) (jj_le rfl) hret))

set_option maxHeartbeats 4000000 in
set_option maxRecDepth 100000 in
theorem law_L5 {p : Program} {l : Launch} {e : Env} {s : State} {m : MethodId} {below : List Frame} {meth : Method} {c : Code} (hl : l.stackTraces = false) {D : va_G} {cA : Nat → ClassId} {ak : (Nat → Nat) × (Nat → Nat)} {A : Nat → Prop} {b : Nat} {xs : Nat → Int32} {Q : State → Prop} (C : jj_C p l s m #[Value.ref b] meth c code 9 R_law ret D cA A ak) (hX : va_X b 5 xs s s.heap) (hbl : b < s.heap.size) (hbA : ¬ A b) (hret : jj_J p l e room_1 s m #[Value.ref b] below meth c 9 A Q (jj_X D A []) 600006 7302072 2265 [(0, .ref b)] []) (q_1 q_4 q_5 q_6 q_7 q_8 q_9 q_10 q_11 q_12 q_13 q_14 q_15 q_16 q_17 q_18 q_19 q_20 q_21 q_22 q_23 q_28 q_31 q_32 q_33 q_34 q_35 q_36 q_37 q_38 q_39 q_40 q_41 q_42 q_43 q_44 : Nat) (f_24 : Nat → Option Nat) (f_25 : Nat → Option Nat) (c_26 : f_24 0 = some q_11) (c_27 : f_25 0 = some q_17) : jj_J p l e room_1 s m #[Value.ref b] below meth c 9 A Q (jj_X D A [(q_1, .inr (11, [.ref q_4, .int 0, .int (-1), .ref q_6, .ref q_12, .ref q_18, .ref q_20, .int 0, .int 0, .ref q_21])), (q_4, .inr (10, [.ref q_5, .int 0, .int 0, .int 0, .int 0, .int 0, .int (-1)])), (q_5, .inl (cA 1, 400, .inl (fun _ => 0))), (q_6, .inr (2, [.int 1, .int 0, .int 0, .int 0, .int 100, .int 0, .int 0, .int 0, .int 0, .int 0, .ref q_7, .ref q_8, .ref q_9, .ref q_10])), (q_7, .inl (cA 2, 6, .inr (.inl (fun _ => 0)))), (q_10, .inl (cA 7, 12, .inr (.inr (.inr (.inr f_24))))), (q_11, .inr (7, [.int 0, .int 0, .int 0, .long 0, .long 0])), (q_12, .inr (2, [.int 1, .int 0, .int 0, .int 0, .int 100, .int 0, .int 0, .int 0, .int 0, .int 0, .ref q_13, .ref q_14, .ref q_15, .ref q_16])), (q_13, .inl (cA 2, 6, .inr (.inl (fun _ => 0)))), (q_16, .inl (cA 7, 12, .inr (.inr (.inr (.inr f_25))))), (q_17, .inr (7, [.int 0, .int 0, .int 0, .long 0, .long 0])), (q_18, .inr (3, [.ref q_19, .long 0, .long 0, .long 0, .long 0, .long 0])), (q_20, .inl (cA 5, 10, .inr (.inr (.inr (.inr (fun _ => none)))))), (q_21, .inr (6, [.ref q_22, .int 0, .ref q_23])), (q_22, .inl (cA 0, 1300, .inl (fun _ => 0))), (q_23, .inl (cA 0, 20, .inl (fun _ => 0))), (q_28, .inr (12, [.ref q_31, .ref q_32, .ref q_33, .ref q_34, .ref q_35, .ref q_36, .int 0, .int 0, .long 0, .long 0, .ref q_37, .ref q_38, .ref q_39, .int 0, .int 0, .int 0, .int 0, .int 0, .int (-1), .int 0, .int 0, .ref q_40, .ref q_41, .ref q_42, .int 0])), (q_32, .inl (cA 2, 334, .inr (.inl (fun _ => 0)))), (q_33, .inl (cA 2, 334, .inr (.inl (fun _ => 0)))), (q_34, .inl (cA 2, 334, .inr (.inl (fun _ => 0)))), (q_35, .inl (cA 2, 334, .inr (.inl (fun _ => 0)))), (q_36, .inl (cA 2, 3340, .inr (.inl (fun _ => 0)))), (q_37, .inl (cA 2, 12, .inr (.inl (fun _ => 0)))), (q_38, .inl (cA 3, 12, .inl (fun _ => 0))), (q_39, .inl (cA 0, 400, .inl (fun _ => 0))), (q_40, .inl (cA 2, 6, .inr (.inl (fun _ => 0)))), (q_41, .inl (cA 2, 6, .inr (.inl (fun _ => 0)))), (q_42, .inl (cA 0, 2400, .inl (fun _ => 0))), (q_31, .inl (cA 2, 334, .inr (.inl (vp_updL (vp_updL (fun _ => 0) 0 1) 4 100)))), (q_43, .inl (cA 2, 1, .inr (.inl (fun _ => 0)))), (q_44, .inl (cA 4, 1, .inr (.inr (.inr (.inl (fun _ => 0))))))]) 156 10481 28 [(5, .int 0), (4, .ref q_44), (3, .ref q_43), (2, .ref q_28), (1, .ref q_1), (0, .ref b)] [] := by
  refine jj_iload C dL_law_28 rfl ?_
  refine jj_aload_n C dL_law_30 rfl ?_
  refine jj_xlen (v := 5) C hX hbl hbA (by decide) dL_law_31 ?_
  refine jj_bipush (v := 6) C dL_law_32 (by decide) ?_
  refine jj_isub (v := (-1)) C dL_law_34 (by decide) ?_
  refine jj_icmp_gtT (tgt := 2265) C dL_law_35 (by decide) (by decide) ?_
  exact jj_loc [5] rfl (jj_drop [] rfl (by decide) (jj_widen (k := 600006) (n := 7302072) (jj_le rfl) (jj_le rfl) hret))

set_option maxHeartbeats 4000000 in
set_option maxRecDepth 100000 in
theorem law_c0 {p : Program} {l : Launch} {e : Env} {s : State} {m : MethodId} {below : List Frame} {meth : Method} {c : Code} (hl : l.stackTraces = false) {D : va_G} {cA : Nat → ClassId} {ak : (Nat → Nat) × (Nat → Nat)} {A : Nat → Prop} {b : Nat} {xs : Nat → Int32} {Q : State → Prop} (C : jj_C p l s m #[Value.ref b] meth c code 9 R_law ret D cA A ak) (hX : va_X b 6 xs s s.heap) (hbl : b < s.heap.size) (hbA : ¬ A b) (hend : jj_J p l e room_1 s m #[Value.ref b] below meth c 9 A Q (jj_X D A []) 600006 7302072 2259 [(0, .ref b), (5, .int 0)] []) (q_1 q_4 q_5 q_6 q_7 q_8 q_9 q_10 q_11 q_12 q_13 q_14 q_15 q_16 q_17 q_18 q_19 q_20 q_21 q_22 q_23 q_28 q_31 q_32 q_33 q_34 q_35 q_36 q_37 q_38 q_39 q_40 q_41 q_42 q_43 q_44 : Nat) (f_24 : Nat → Option Nat) (f_25 : Nat → Option Nat) (c_26 : f_24 0 = some q_11) (c_27 : f_25 0 = some q_17) : jj_J p l e room_1 s m #[Value.ref b] below meth c 9 A Q (jj_X D A [(q_1, .inr (11, [.ref q_4, .int 0, .int (-1), .ref q_6, .ref q_12, .ref q_18, .ref q_20, .int 0, .int 0, .ref q_21])), (q_4, .inr (10, [.ref q_5, .int 0, .int 0, .int 0, .int 0, .int 0, .int (-1)])), (q_5, .inl (cA 1, 400, .inl (fun _ => 0))), (q_6, .inr (2, [.int 1, .int 0, .int 0, .int 0, .int 100, .int 0, .int 0, .int 0, .int 0, .int 0, .ref q_7, .ref q_8, .ref q_9, .ref q_10])), (q_7, .inl (cA 2, 6, .inr (.inl (fun _ => 0)))), (q_10, .inl (cA 7, 12, .inr (.inr (.inr (.inr f_24))))), (q_11, .inr (7, [.int 0, .int 0, .int 0, .long 0, .long 0])), (q_12, .inr (2, [.int 1, .int 0, .int 0, .int 0, .int 100, .int 0, .int 0, .int 0, .int 0, .int 0, .ref q_13, .ref q_14, .ref q_15, .ref q_16])), (q_13, .inl (cA 2, 6, .inr (.inl (fun _ => 0)))), (q_16, .inl (cA 7, 12, .inr (.inr (.inr (.inr f_25))))), (q_17, .inr (7, [.int 0, .int 0, .int 0, .long 0, .long 0])), (q_18, .inr (3, [.ref q_19, .long 0, .long 0, .long 0, .long 0, .long 0])), (q_20, .inl (cA 5, 10, .inr (.inr (.inr (.inr (fun _ => none)))))), (q_21, .inr (6, [.ref q_22, .int 0, .ref q_23])), (q_22, .inl (cA 0, 1300, .inl (fun _ => 0))), (q_23, .inl (cA 0, 20, .inl (fun _ => 0))), (q_28, .inr (12, [.ref q_31, .ref q_32, .ref q_33, .ref q_34, .ref q_35, .ref q_36, .int 0, .int 0, .long 0, .long 0, .ref q_37, .ref q_38, .ref q_39, .int 0, .int 0, .int 0, .int 0, .int 0, .int (-1), .int 0, .int 0, .ref q_40, .ref q_41, .ref q_42, .int 0])), (q_32, .inl (cA 2, 334, .inr (.inl (fun _ => 0)))), (q_33, .inl (cA 2, 334, .inr (.inl (fun _ => 0)))), (q_34, .inl (cA 2, 334, .inr (.inl (fun _ => 0)))), (q_35, .inl (cA 2, 334, .inr (.inl (fun _ => 0)))), (q_36, .inl (cA 2, 3340, .inr (.inl (fun _ => 0)))), (q_37, .inl (cA 2, 12, .inr (.inl (fun _ => 0)))), (q_38, .inl (cA 3, 12, .inl (fun _ => 0))), (q_39, .inl (cA 0, 400, .inl (fun _ => 0))), (q_40, .inl (cA 2, 6, .inr (.inl (fun _ => 0)))), (q_41, .inl (cA 2, 6, .inr (.inl (fun _ => 0)))), (q_42, .inl (cA 0, 2400, .inl (fun _ => 0))), (q_31, .inl (cA 2, 334, .inr (.inl (vp_updL (vp_updL (fun _ => 0) 0 1) 4 100)))), (q_43, .inl (cA 2, 1, .inr (.inl (fun _ => 0)))), (q_44, .inl (cA 4, 1, .inr (.inr (.inr (.inl (fun _ => 0))))))]) 156 10481 232 [(5, .int 0), (4, .ref q_44), (3, .ref q_43), (2, .ref q_28), (1, .ref q_1), (0, .ref b)] [] := by
  refine jj_aload_n C dL_law_232 rfl ?_
  refine jj_aload_n C dL_law_233 rfl ?_
  refine jj_iload C dL_law_234 rfl ?_
  refine jj_iconst (v := 1) C dL_law_236 (by decide) ?_
  refine jj_iadd (v := 1) C dL_law_237 (by decide) ?_
  refine jj_xld (v := xs 1) C hX hbl hbA (vp_in_iff.mpr (by decide)) rfl dL_law_238 ?_
  refine jj_aload_n C dL_law_239 rfl ?_
  refine jj_iload C dL_law_240 rfl ?_
  refine jj_iconst (v := 2) C dL_law_242 (by decide) ?_
  refine jj_iadd (v := 2) C dL_law_243 (by decide) ?_
  refine jj_xld (v := xs 2) C hX hbl hbA (vp_in_iff.mpr (by decide)) rfl dL_law_244 ?_
  refine jj_aload_n C dL_law_245 rfl ?_
  refine jj_iload C dL_law_246 rfl ?_
  refine jj_iconst (v := 3) C dL_law_248 (by decide) ?_
  refine jj_iadd (v := 3) C dL_law_249 (by decide) ?_
  refine jj_xld (v := xs 3) C hX hbl hbA (vp_in_iff.mpr (by decide)) rfl dL_law_250 ?_
  refine jj_aload_n C dL_law_251 rfl ?_
  refine jj_iload C dL_law_252 rfl ?_
  refine jj_iconst (v := 4) C dL_law_254 (by decide) ?_
  refine jj_iadd (v := 4) C dL_law_255 (by decide) ?_
  refine jj_xld (v := xs 4) C hX hbl hbA (vp_in_iff.mpr (by decide)) rfl dL_law_256 ?_
  refine jj_aload_n C dL_law_257 rfl ?_
  refine jj_iload C dL_law_258 rfl ?_
  refine jj_iconst (v := 5) C dL_law_260 (by decide) ?_
  refine jj_iadd (v := 5) C dL_law_261 (by decide) ?_
  refine jj_xld (v := xs 5) C hX hbl hbA (vp_in_iff.mpr (by decide)) rfl dL_law_262 ?_
  refine jj_aload_n C dL_law_263 rfl ?_
  refine jq_callSW (rest := []) C (ct_L_appendText_1 hl D cA ak q_1 q_43 q_4 q_5 q_6 q_12 q_18 q_20 q_21 (xs 1) (xs 2) (xs 3) (xs 4) (xs 5)) [0, 29, 1, 2] [3, 4, 5, 6, 7, 8, 9, 10, 11, 12, 13, 14, 15, 16, 17, 18, 19, 20, 21, 22, 23, 24, 25, 26, 27, 28, 30] rfl rfl (by decide) (by decide) (by decide) jw_984 jw_986 jw_985 jw_983 jn_L_appendText rfl (jj_le rfl) (jj_le rfl) (jj_le rfl) (jj_le rfl) (jj_le rfl) dL_law_264 rfl (fun _ _ hX => hX.elim) (fun w1 r O_47 => ?_)
  obtain ⟨rfl, rfl⟩ := O_47
  refine jj_apd rfl ?_
  refine jj_istore C dL_law_267 (by decide) rfl ?_
  refine jj_aload_n C dL_law_269 rfl ?_
  refine jj_aload_n C dL_law_270 rfl ?_
  refine jj_iload C dL_law_271 rfl ?_
  refine jj_iconst (v := 1) C dL_law_273 (by decide) ?_
  refine jj_iadd (v := 1) C dL_law_274 (by decide) ?_
  refine jj_xld (v := xs 1) C hX hbl hbA (vp_in_iff.mpr (by decide)) rfl dL_law_275 ?_
  refine jj_aload_n C dL_law_276 rfl ?_
  refine jj_iload C dL_law_277 rfl ?_
  refine jj_iconst (v := 2) C dL_law_279 (by decide) ?_
  refine jj_iadd (v := 2) C dL_law_280 (by decide) ?_
  refine jj_xld (v := xs 2) C hX hbl hbA (vp_in_iff.mpr (by decide)) rfl dL_law_281 ?_
  refine jj_aload_n C dL_law_282 rfl ?_
  refine jj_iload C dL_law_283 rfl ?_
  refine jj_iconst (v := 3) C dL_law_285 (by decide) ?_
  refine jj_iadd (v := 3) C dL_law_286 (by decide) ?_
  refine jj_xld (v := xs 3) C hX hbl hbA (vp_in_iff.mpr (by decide)) rfl dL_law_287 ?_
  refine jj_aload_n C dL_law_288 rfl ?_
  refine jj_iload C dL_law_289 rfl ?_
  refine jj_iconst (v := 4) C dL_law_291 (by decide) ?_
  refine jj_iadd (v := 4) C dL_law_292 (by decide) ?_
  refine jj_xld (v := xs 4) C hX hbl hbA (vp_in_iff.mpr (by decide)) rfl dL_law_293 ?_
  refine jj_aload_n C dL_law_294 rfl ?_
  refine jj_iload C dL_law_295 rfl ?_
  refine jj_iconst (v := 5) C dL_law_297 (by decide) ?_
  refine jj_iadd (v := 5) C dL_law_298 (by decide) ?_
  refine jj_xld (v := xs 5) C hX hbl hbA (vp_in_iff.mpr (by decide)) rfl dL_law_299 ?_
  refine jq_callV (rest := []) C (ct_X11_appendText_1 hl D cA ak q_28 q_39 q_31 q_32 q_33 q_34 q_35 q_36 q_37 q_38 q_40 q_41 q_42 (xs 1) (xs 2) (xs 3) (xs 4) (xs 5)) [13, 21] [0, 1, 2, 3, 4, 5, 6, 7, 8, 9, 10, 11, 12, 14, 15, 16, 17, 18, 19, 20, 22, 23, 24, 25, 26, 27] rfl rfl (by decide) (by decide) (by decide) 0 rfl rfl rfl jw_988 jw_989 jw_990 jw_224 jw_242 jn_X11_appendText rfl (jj_le rfl) (jj_le rfl) (jj_le rfl) (jj_le rfl) (jj_le rfl) dL_law_300 rfl (fun _ _ hX => hX.elim) (fun w1 r O_49 => ?_)
  obtain ⟨f_50, rfl, rfl⟩ := O_49
  refine jj_apd rfl ?_
  refine jj_istore C dL_law_303 (by decide) rfl ?_
  refine jj_aload_n C dL_law_305 rfl ?_
  refine jq_callV (rest := []) C (ct_X11_thrown_1 hl D cA ak q_28 q_31 q_32 q_33 q_34 q_35 q_36 q_37 q_38 q_39 q_40 q_41 q_42) [26] [0, 1, 2, 3, 4, 5, 6, 7, 8, 9, 10, 11, 12, 13, 14, 15, 16, 17, 18, 19, 20, 21, 22, 23, 24, 25, 27] rfl rfl (by decide) (by decide) (by decide) 0 rfl rfl rfl jw_993 jw_994 jw_995 jw_224 jw_992 jn_X11_thrown rfl (jj_le rfl) (jj_le rfl) (jj_le rfl) (jj_le rfl) (jj_le rfl) dL_law_306 rfl (fun _ _ hX => hX.elim) (fun w1 r O_52 => ?_)
  obtain ⟨rfl, rfl⟩ := O_52
  refine jj_apd rfl ?_
  refine jj_iload C dL_law_309 rfl ?_
  refine jj_icmp_eqT (tgt := 316) C dL_law_311 (by decide) (by decide) ?_
  refine jj_iload C dL_law_316 rfl ?_
  refine jj_if_neF (tgt := 333) C dL_law_318 (by decide) (by decide) ?_
  refine jj_aload_n C dL_law_321 rfl ?_
  refine jj_iconst (v := 0) C dL_law_322 (by decide) ?_
  refine jj_lald (v := 20) C 25 rfl (vp_in_iff.mpr (by decide)) rfl dL_law_323 ?_
  refine jj_iload C dL_law_324 rfl ?_
  refine jj_i2l (v := 20) C dL_law_326 (by decide) ?_
  refine jj_lcmp_eqT (tgt := 333) C dL_law_327 dL_law_328 (by decide) (by decide) ?_
  refine jj_goto (tgt := 2259) C dL_law_333 (by decide) ?_
  exact jj_loc [7, 2] rfl (jj_drop [] rfl (by decide) (jj_widen (k := 600006) (n := 7302072) (jj_le rfl) (jj_le rfl) hend))

set_option maxHeartbeats 4000000 in
set_option maxRecDepth 100000 in
theorem law_c1 {p : Program} {l : Launch} {e : Env} {s : State} {m : MethodId} {below : List Frame} {meth : Method} {c : Code} (hl : l.stackTraces = false) {D : va_G} {cA : Nat → ClassId} {ak : (Nat → Nat) × (Nat → Nat)} {A : Nat → Prop} {b : Nat} {xs : Nat → Int32} {Q : State → Prop} (C : jj_C p l s m #[Value.ref b] meth c code 9 R_law ret D cA A ak) (hX : va_X b 6 xs s s.heap) (hbl : b < s.heap.size) (hbA : ¬ A b) (hend : jj_J p l e room_1 s m #[Value.ref b] below meth c 9 A Q (jj_X D A []) 600006 7302072 2259 [(0, .ref b), (5, .int 0)] []) (q_1 q_4 q_5 q_6 q_7 q_8 q_9 q_10 q_11 q_12 q_13 q_14 q_15 q_16 q_17 q_18 q_19 q_20 q_21 q_22 q_23 q_28 q_31 q_32 q_33 q_34 q_35 q_36 q_37 q_38 q_39 q_40 q_41 q_42 q_43 q_44 : Nat) (f_24 : Nat → Option Nat) (f_25 : Nat → Option Nat) (c_26 : f_24 0 = some q_11) (c_27 : f_25 0 = some q_17) : jj_J p l e room_1 s m #[Value.ref b] below meth c 9 A Q (jj_X D A [(q_1, .inr (11, [.ref q_4, .int 0, .int (-1), .ref q_6, .ref q_12, .ref q_18, .ref q_20, .int 0, .int 0, .ref q_21])), (q_4, .inr (10, [.ref q_5, .int 0, .int 0, .int 0, .int 0, .int 0, .int (-1)])), (q_5, .inl (cA 1, 400, .inl (fun _ => 0))), (q_6, .inr (2, [.int 1, .int 0, .int 0, .int 0, .int 100, .int 0, .int 0, .int 0, .int 0, .int 0, .ref q_7, .ref q_8, .ref q_9, .ref q_10])), (q_7, .inl (cA 2, 6, .inr (.inl (fun _ => 0)))), (q_10, .inl (cA 7, 12, .inr (.inr (.inr (.inr f_24))))), (q_11, .inr (7, [.int 0, .int 0, .int 0, .long 0, .long 0])), (q_12, .inr (2, [.int 1, .int 0, .int 0, .int 0, .int 100, .int 0, .int 0, .int 0, .int 0, .int 0, .ref q_13, .ref q_14, .ref q_15, .ref q_16])), (q_13, .inl (cA 2, 6, .inr (.inl (fun _ => 0)))), (q_16, .inl (cA 7, 12, .inr (.inr (.inr (.inr f_25))))), (q_17, .inr (7, [.int 0, .int 0, .int 0, .long 0, .long 0])), (q_18, .inr (3, [.ref q_19, .long 0, .long 0, .long 0, .long 0, .long 0])), (q_20, .inl (cA 5, 10, .inr (.inr (.inr (.inr (fun _ => none)))))), (q_21, .inr (6, [.ref q_22, .int 0, .ref q_23])), (q_22, .inl (cA 0, 1300, .inl (fun _ => 0))), (q_23, .inl (cA 0, 20, .inl (fun _ => 0))), (q_28, .inr (12, [.ref q_31, .ref q_32, .ref q_33, .ref q_34, .ref q_35, .ref q_36, .int 0, .int 0, .long 0, .long 0, .ref q_37, .ref q_38, .ref q_39, .int 0, .int 0, .int 0, .int 0, .int 0, .int (-1), .int 0, .int 0, .ref q_40, .ref q_41, .ref q_42, .int 0])), (q_32, .inl (cA 2, 334, .inr (.inl (fun _ => 0)))), (q_33, .inl (cA 2, 334, .inr (.inl (fun _ => 0)))), (q_34, .inl (cA 2, 334, .inr (.inl (fun _ => 0)))), (q_35, .inl (cA 2, 334, .inr (.inl (fun _ => 0)))), (q_36, .inl (cA 2, 3340, .inr (.inl (fun _ => 0)))), (q_37, .inl (cA 2, 12, .inr (.inl (fun _ => 0)))), (q_38, .inl (cA 3, 12, .inl (fun _ => 0))), (q_39, .inl (cA 0, 400, .inl (fun _ => 0))), (q_40, .inl (cA 2, 6, .inr (.inl (fun _ => 0)))), (q_41, .inl (cA 2, 6, .inr (.inl (fun _ => 0)))), (q_42, .inl (cA 0, 2400, .inl (fun _ => 0))), (q_31, .inl (cA 2, 334, .inr (.inl (vp_updL (vp_updL (fun _ => 0) 0 1) 4 100)))), (q_43, .inl (cA 2, 1, .inr (.inl (fun _ => 0)))), (q_44, .inl (cA 4, 1, .inr (.inr (.inr (.inl (fun _ => 0))))))]) 156 10481 336 [(5, .int 0), (4, .ref q_44), (3, .ref q_43), (2, .ref q_28), (1, .ref q_1), (0, .ref b)] [] := by
  refine jj_aload_n C dL_law_336 rfl ?_
  refine jj_aload_n C dL_law_337 rfl ?_
  refine jj_iload C dL_law_338 rfl ?_
  refine jj_iconst (v := 1) C dL_law_340 (by decide) ?_
  refine jj_iadd (v := 1) C dL_law_341 (by decide) ?_
  refine jj_xld (v := xs 1) C hX hbl hbA (vp_in_iff.mpr (by decide)) rfl dL_law_342 ?_
  refine jj_aload_n C dL_law_343 rfl ?_
  refine jq_callSW (rest := []) C (ct_L_truncateText_1 hl D cA ak q_1 q_43 q_4 q_6 q_12 q_18 q_20 q_21 q_5 (xs 1)) [0, 29, 1] [2, 3, 4, 5, 6, 7, 8, 9, 10, 11, 12, 13, 14, 15, 16, 17, 18, 19, 20, 21, 22, 23, 24, 25, 26, 27, 28, 30] rfl rfl (by decide) (by decide) (by decide) jw_1003 jw_1004 jw_985 jw_1002 jn_L_truncateText rfl (jj_le rfl) (jj_le rfl) (jj_le rfl) (jj_le rfl) (jj_le rfl) dL_law_344 rfl (fun _ _ hX => hX.elim) (fun w1 r O_47 => ?_)
  rcases O_47 with ⟨c_48, rfl, rfl⟩ | ⟨c_49, c_50, rfl, rfl⟩ | ⟨c_51, c_52, rfl, rfl⟩
  · refine jj_apd rfl ?_
    refine jj_istore C dL_law_347 (by decide) rfl ?_
    refine jj_aload_n C dL_law_349 rfl ?_
    refine jj_aload_n C dL_law_350 rfl ?_
    refine jj_iload C dL_law_351 rfl ?_
    refine jj_iconst (v := 1) C dL_law_353 (by decide) ?_
    refine jj_iadd (v := 1) C dL_law_354 (by decide) ?_
    refine jj_xld (v := xs 1) C hX hbl hbA (vp_in_iff.mpr (by decide)) rfl dL_law_355 ?_
    refine jq_callV (rest := []) C (ct_X11_truncateText_1 hl D cA ak q_28 q_31 q_32 q_33 q_34 q_35 q_36 q_37 q_38 q_39 q_40 q_41 q_42 (xs 1)) [14] [0, 1, 2, 3, 4, 5, 6, 7, 8, 9, 10, 11, 12, 13, 15, 16, 17, 18, 19, 20, 21, 22, 23, 24, 25, 26, 27, 28] rfl rfl (by decide) (by decide) (by decide) 0 rfl rfl rfl jw_1006 jw_1007 jw_1008 jw_224 jw_255 jn_X11_truncateText rfl (jj_le rfl) (jj_le rfl) (jj_le rfl) (jj_le rfl) (jj_le rfl) dL_law_356 rfl (fun _ _ hX => hX.elim) (fun w1 r O_54 => ?_)
    rcases O_54 with ⟨c_55, rfl, rfl⟩ | ⟨c_56, c_57, rfl, rfl⟩ | ⟨c_58, c_59, rfl, rfl⟩
    · refine jj_apd rfl ?_
      refine jj_istore C dL_law_359 (by decide) rfl ?_
      refine jj_aload_n C dL_law_361 rfl ?_
      refine jq_callV (rest := []) C (ct_X11_thrown_2 hl D cA ak q_28 q_31 q_32 q_33 q_34 q_35 q_36 q_37 q_38 q_39 q_40 q_41 q_42) [28] [0, 1, 2, 3, 4, 5, 6, 7, 8, 9, 10, 11, 12, 13, 14, 15, 16, 17, 18, 19, 20, 21, 22, 23, 24, 25, 26, 27] rfl rfl (by decide) (by decide) (by decide) 0 rfl rfl rfl jw_993 jw_994 jw_995 jw_224 jw_992 jn_X11_thrown rfl (jj_le rfl) (jj_le rfl) (jj_le rfl) (jj_le rfl) (jj_le rfl) dL_law_362 rfl (fun _ _ hX => hX.elim) (fun w1 r O_61 => ?_)
      obtain ⟨rfl, rfl⟩ := O_61
      refine jj_apd rfl ?_
      refine jj_iload C dL_law_365 rfl ?_
      refine jj_icmp_eqT (tgt := 372) C dL_law_367 (by decide) (by decide) ?_
      refine jj_iload C dL_law_372 rfl ?_
      refine jj_if_neT (tgt := 389) C dL_law_374 (by decide) (by decide) ?_
      refine jj_goto (tgt := 2259) C dL_law_389 (by decide) ?_
      exact jj_loc [7, 2] rfl (jj_drop [] rfl (by decide) (jj_widen (k := 600006) (n := 7302072) (jj_le rfl) (jj_le rfl) hend))
    · refine jj_apd rfl ?_
      refine jj_istore C dL_law_359 (by decide) rfl ?_
      refine jj_aload_n C dL_law_361 rfl ?_
      refine jq_callV (rest := []) C (ct_X11_thrown_2 hl D cA ak q_28 q_31 q_32 q_33 q_34 q_35 q_36 q_37 q_38 q_39 q_40 q_41 q_42) [28] [0, 1, 2, 3, 4, 5, 6, 7, 8, 9, 10, 11, 12, 13, 14, 15, 16, 17, 18, 19, 20, 21, 22, 23, 24, 25, 26, 27] rfl rfl (by decide) (by decide) (by decide) 0 rfl rfl rfl jw_993 jw_994 jw_995 jw_224 jw_992 jn_X11_thrown rfl (jj_le rfl) (jj_le rfl) (jj_le rfl) (jj_le rfl) (jj_le rfl) dL_law_362 rfl (fun _ _ hX => hX.elim) (fun w1 r O_63 => ?_)
      obtain ⟨rfl, rfl⟩ := O_63
      refine jj_apd rfl ?_
      refine jj_iload C dL_law_365 rfl ?_
      refine jj_icmp_eqT (tgt := 372) C dL_law_367 (by decide) (by decide) ?_
      refine jj_iload C dL_law_372 rfl ?_
      refine jj_if_neT (tgt := 389) C dL_law_374 (by decide) (by decide) ?_
      refine jj_goto (tgt := 2259) C dL_law_389 (by decide) ?_
      exact jj_loc [7, 2] rfl (jj_drop [] rfl (by decide) (jj_widen (k := 600006) (n := 7302072) (jj_le rfl) (jj_le rfl) hend))
    · refine jj_apd rfl ?_
      refine jj_istore C dL_law_359 (by decide) rfl ?_
      refine jj_aload_n C dL_law_361 rfl ?_
      refine jq_callV (rest := []) C (ct_X11_thrown_3 hl D cA ak q_28 q_31 q_32 q_33 q_34 q_35 q_36 q_37 q_38 q_39 q_40 q_41 q_42 (xs 1)) [28] [0, 1, 2, 3, 4, 5, 6, 7, 8, 9, 10, 11, 12, 13, 14, 15, 16, 17, 18, 19, 20, 21, 22, 23, 24, 25, 26, 27] rfl rfl (by decide) (by decide) (by decide) 0 rfl rfl rfl jw_993 jw_994 jw_995 jw_224 jw_992 jn_X11_thrown rfl (jj_le rfl) (jj_le rfl) (jj_le rfl) (jj_le rfl) (jj_le rfl) dL_law_362 rfl (fun _ _ hX => hX.elim) (fun w1 r O_65 => ?_)
      obtain ⟨rfl, rfl⟩ := O_65
      refine jj_apd rfl ?_
      refine jj_iload C dL_law_365 rfl ?_
      refine jj_icmp_eqF (tgt := 372) C dL_law_367 (by decide) (by decide) ?_
      refine jj_iconst (v := 0) C dL_law_370 (by decide) ?_
      exfalso; have z0 := jc_lt (a := (xs 1).toInt) (b := (0)) c_48 rfl (by decide); have z1 := jc_nltL (a := (xs 1).toInt) (b := (0)) c_58 (Int32.toInt_toInt64 _) (by decide); have z2 := jc_nltL (a := (0)) (b := (xs 1).toInt) c_59 (by decide) (Int32.toInt_toInt64 _); omega
  · refine jj_apd rfl ?_
    refine jj_istore C dL_law_347 (by decide) rfl ?_
    refine jj_aload_n C dL_law_349 rfl ?_
    refine jj_aload_n C dL_law_350 rfl ?_
    refine jj_iload C dL_law_351 rfl ?_
    refine jj_iconst (v := 1) C dL_law_353 (by decide) ?_
    refine jj_iadd (v := 1) C dL_law_354 (by decide) ?_
    refine jj_xld (v := xs 1) C hX hbl hbA (vp_in_iff.mpr (by decide)) rfl dL_law_355 ?_
    refine jq_callV (rest := []) C (ct_X11_truncateText_1 hl D cA ak q_28 q_31 q_32 q_33 q_34 q_35 q_36 q_37 q_38 q_39 q_40 q_41 q_42 (xs 1)) [14] [0, 1, 2, 3, 4, 5, 6, 7, 8, 9, 10, 11, 12, 13, 15, 16, 17, 18, 19, 20, 21, 22, 23, 24, 25, 26, 27, 28] rfl rfl (by decide) (by decide) (by decide) 0 rfl rfl rfl jw_1006 jw_1007 jw_1008 jw_224 jw_255 jn_X11_truncateText rfl (jj_le rfl) (jj_le rfl) (jj_le rfl) (jj_le rfl) (jj_le rfl) dL_law_356 rfl (fun _ _ hX => hX.elim) (fun w1 r O_67 => ?_)
    rcases O_67 with ⟨c_68, rfl, rfl⟩ | ⟨c_69, c_70, rfl, rfl⟩ | ⟨c_71, c_72, rfl, rfl⟩
    · refine jj_apd rfl ?_
      refine jj_istore C dL_law_359 (by decide) rfl ?_
      refine jj_aload_n C dL_law_361 rfl ?_
      refine jq_callV (rest := []) C (ct_X11_thrown_2 hl D cA ak q_28 q_31 q_32 q_33 q_34 q_35 q_36 q_37 q_38 q_39 q_40 q_41 q_42) [28] [0, 1, 2, 3, 4, 5, 6, 7, 8, 9, 10, 11, 12, 13, 14, 15, 16, 17, 18, 19, 20, 21, 22, 23, 24, 25, 26, 27] rfl rfl (by decide) (by decide) (by decide) 0 rfl rfl rfl jw_993 jw_994 jw_995 jw_224 jw_992 jn_X11_thrown rfl (jj_le rfl) (jj_le rfl) (jj_le rfl) (jj_le rfl) (jj_le rfl) dL_law_362 rfl (fun _ _ hX => hX.elim) (fun w1 r O_74 => ?_)
      obtain ⟨rfl, rfl⟩ := O_74
      refine jj_apd rfl ?_
      refine jj_iload C dL_law_365 rfl ?_
      refine jj_icmp_eqT (tgt := 372) C dL_law_367 (by decide) (by decide) ?_
      refine jj_iload C dL_law_372 rfl ?_
      refine jj_if_neT (tgt := 389) C dL_law_374 (by decide) (by decide) ?_
      refine jj_goto (tgt := 2259) C dL_law_389 (by decide) ?_
      exact jj_loc [7, 2] rfl (jj_drop [] rfl (by decide) (jj_widen (k := 600006) (n := 7302072) (jj_le rfl) (jj_le rfl) hend))
    · refine jj_apd rfl ?_
      refine jj_istore C dL_law_359 (by decide) rfl ?_
      refine jj_aload_n C dL_law_361 rfl ?_
      refine jq_callV (rest := []) C (ct_X11_thrown_2 hl D cA ak q_28 q_31 q_32 q_33 q_34 q_35 q_36 q_37 q_38 q_39 q_40 q_41 q_42) [28] [0, 1, 2, 3, 4, 5, 6, 7, 8, 9, 10, 11, 12, 13, 14, 15, 16, 17, 18, 19, 20, 21, 22, 23, 24, 25, 26, 27] rfl rfl (by decide) (by decide) (by decide) 0 rfl rfl rfl jw_993 jw_994 jw_995 jw_224 jw_992 jn_X11_thrown rfl (jj_le rfl) (jj_le rfl) (jj_le rfl) (jj_le rfl) (jj_le rfl) dL_law_362 rfl (fun _ _ hX => hX.elim) (fun w1 r O_76 => ?_)
      obtain ⟨rfl, rfl⟩ := O_76
      refine jj_apd rfl ?_
      refine jj_iload C dL_law_365 rfl ?_
      refine jj_icmp_eqT (tgt := 372) C dL_law_367 (by decide) (by decide) ?_
      refine jj_iload C dL_law_372 rfl ?_
      refine jj_if_neT (tgt := 389) C dL_law_374 (by decide) (by decide) ?_
      refine jj_goto (tgt := 2259) C dL_law_389 (by decide) ?_
      exact jj_loc [7, 2] rfl (jj_drop [] rfl (by decide) (jj_widen (k := 600006) (n := 7302072) (jj_le rfl) (jj_le rfl) hend))
    · refine jj_apd rfl ?_
      refine jj_istore C dL_law_359 (by decide) rfl ?_
      refine jj_aload_n C dL_law_361 rfl ?_
      refine jq_callV (rest := []) C (ct_X11_thrown_3 hl D cA ak q_28 q_31 q_32 q_33 q_34 q_35 q_36 q_37 q_38 q_39 q_40 q_41 q_42 (xs 1)) [28] [0, 1, 2, 3, 4, 5, 6, 7, 8, 9, 10, 11, 12, 13, 14, 15, 16, 17, 18, 19, 20, 21, 22, 23, 24, 25, 26, 27] rfl rfl (by decide) (by decide) (by decide) 0 rfl rfl rfl jw_993 jw_994 jw_995 jw_224 jw_992 jn_X11_thrown rfl (jj_le rfl) (jj_le rfl) (jj_le rfl) (jj_le rfl) (jj_le rfl) dL_law_362 rfl (fun _ _ hX => hX.elim) (fun w1 r O_78 => ?_)
      obtain ⟨rfl, rfl⟩ := O_78
      refine jj_apd rfl ?_
      refine jj_iload C dL_law_365 rfl ?_
      refine jj_icmp_eqF (tgt := 372) C dL_law_367 (by decide) (by decide) ?_
      refine jj_iconst (v := 0) C dL_law_370 (by decide) ?_
      exfalso; have z0 := jc_nlt (a := (xs 1).toInt) (b := (0)) c_49 rfl (by decide); have z1 := jc_nle (a := (xs 1).toInt) (b := (0)) c_50 rfl (by decide); have z2 := jc_nltL (a := (xs 1).toInt) (b := (0)) c_71 (Int32.toInt_toInt64 _) (by decide); have z3 := jc_nltL (a := (0)) (b := (xs 1).toInt) c_72 (by decide) (Int32.toInt_toInt64 _); omega
  · refine jj_apd rfl ?_
    refine jj_istore C dL_law_347 (by decide) rfl ?_
    refine jj_aload_n C dL_law_349 rfl ?_
    refine jj_aload_n C dL_law_350 rfl ?_
    refine jj_iload C dL_law_351 rfl ?_
    refine jj_iconst (v := 1) C dL_law_353 (by decide) ?_
    refine jj_iadd (v := 1) C dL_law_354 (by decide) ?_
    refine jj_xld (v := xs 1) C hX hbl hbA (vp_in_iff.mpr (by decide)) rfl dL_law_355 ?_
    refine jq_callV (rest := []) C (ct_X11_truncateText_1 hl D cA ak q_28 q_31 q_32 q_33 q_34 q_35 q_36 q_37 q_38 q_39 q_40 q_41 q_42 (xs 1)) [14] [0, 1, 2, 3, 4, 5, 6, 7, 8, 9, 10, 11, 12, 13, 15, 16, 17, 18, 19, 20, 21, 22, 23, 24, 25, 26, 27, 28] rfl rfl (by decide) (by decide) (by decide) 0 rfl rfl rfl jw_1006 jw_1007 jw_1008 jw_224 jw_255 jn_X11_truncateText rfl (jj_le rfl) (jj_le rfl) (jj_le rfl) (jj_le rfl) (jj_le rfl) dL_law_356 rfl (fun _ _ hX => hX.elim) (fun w1 r O_80 => ?_)
    rcases O_80 with ⟨c_81, rfl, rfl⟩ | ⟨c_82, c_83, rfl, rfl⟩ | ⟨c_84, c_85, rfl, rfl⟩
    · refine jj_apd rfl ?_
      refine jj_istore C dL_law_359 (by decide) rfl ?_
      refine jj_aload_n C dL_law_361 rfl ?_
      refine jq_callV (rest := []) C (ct_X11_thrown_2 hl D cA ak q_28 q_31 q_32 q_33 q_34 q_35 q_36 q_37 q_38 q_39 q_40 q_41 q_42) [28] [0, 1, 2, 3, 4, 5, 6, 7, 8, 9, 10, 11, 12, 13, 14, 15, 16, 17, 18, 19, 20, 21, 22, 23, 24, 25, 26, 27] rfl rfl (by decide) (by decide) (by decide) 0 rfl rfl rfl jw_993 jw_994 jw_995 jw_224 jw_992 jn_X11_thrown rfl (jj_le rfl) (jj_le rfl) (jj_le rfl) (jj_le rfl) (jj_le rfl) dL_law_362 rfl (fun _ _ hX => hX.elim) (fun w1 r O_87 => ?_)
      obtain ⟨rfl, rfl⟩ := O_87
      refine jj_apd rfl ?_
      refine jj_iload C dL_law_365 rfl ?_
      refine jj_icmp_eqF (tgt := 372) C dL_law_367 (by decide) (by decide) ?_
      refine jj_iconst (v := 0) C dL_law_370 (by decide) ?_
      exfalso; have z0 := jc_nlt (a := (xs 1).toInt) (b := (0)) c_51 rfl (by decide); have z1 := jc_le (a := (xs 1).toInt) (b := (0)) c_52 rfl (by decide); have z2 := jc_ltL (a := (xs 1).toInt) (b := (0)) c_81 (Int32.toInt_toInt64 _) (by decide); omega
    · refine jj_apd rfl ?_
      refine jj_istore C dL_law_359 (by decide) rfl ?_
      refine jj_aload_n C dL_law_361 rfl ?_
      refine jq_callV (rest := []) C (ct_X11_thrown_2 hl D cA ak q_28 q_31 q_32 q_33 q_34 q_35 q_36 q_37 q_38 q_39 q_40 q_41 q_42) [28] [0, 1, 2, 3, 4, 5, 6, 7, 8, 9, 10, 11, 12, 13, 14, 15, 16, 17, 18, 19, 20, 21, 22, 23, 24, 25, 26, 27] rfl rfl (by decide) (by decide) (by decide) 0 rfl rfl rfl jw_993 jw_994 jw_995 jw_224 jw_992 jn_X11_thrown rfl (jj_le rfl) (jj_le rfl) (jj_le rfl) (jj_le rfl) (jj_le rfl) dL_law_362 rfl (fun _ _ hX => hX.elim) (fun w1 r O_89 => ?_)
      obtain ⟨rfl, rfl⟩ := O_89
      refine jj_apd rfl ?_
      refine jj_iload C dL_law_365 rfl ?_
      refine jj_icmp_eqF (tgt := 372) C dL_law_367 (by decide) (by decide) ?_
      refine jj_iconst (v := 0) C dL_law_370 (by decide) ?_
      exfalso; have z0 := jc_nlt (a := (xs 1).toInt) (b := (0)) c_51 rfl (by decide); have z1 := jc_le (a := (xs 1).toInt) (b := (0)) c_52 rfl (by decide); have z2 := jc_nltL (a := (xs 1).toInt) (b := (0)) c_82 (Int32.toInt_toInt64 _) (by decide); have z3 := jc_ltL (a := (0)) (b := (xs 1).toInt) c_83 (by decide) (Int32.toInt_toInt64 _); omega
    · refine jj_apd rfl ?_
      refine jj_istore C dL_law_359 (by decide) rfl ?_
      refine jj_aload_n C dL_law_361 rfl ?_
      refine jq_callV (rest := []) C (ct_X11_thrown_3 hl D cA ak q_28 q_31 q_32 q_33 q_34 q_35 q_36 q_37 q_38 q_39 q_40 q_41 q_42 (xs 1)) [28] [0, 1, 2, 3, 4, 5, 6, 7, 8, 9, 10, 11, 12, 13, 14, 15, 16, 17, 18, 19, 20, 21, 22, 23, 24, 25, 26, 27] rfl rfl (by decide) (by decide) (by decide) 0 rfl rfl rfl jw_993 jw_994 jw_995 jw_224 jw_992 jn_X11_thrown rfl (jj_le rfl) (jj_le rfl) (jj_le rfl) (jj_le rfl) (jj_le rfl) dL_law_362 rfl (fun _ _ hX => hX.elim) (fun w1 r O_91 => ?_)
      obtain ⟨rfl, rfl⟩ := O_91
      refine jj_apd rfl ?_
      refine jj_iload C dL_law_365 rfl ?_
      refine jj_icmp_eqT (tgt := 372) C dL_law_367 (by decide) (by decide) ?_
      refine jj_iload C dL_law_372 rfl ?_
      refine jj_if_neF (tgt := 389) C dL_law_374 (by decide) (by decide) ?_
      refine jj_aload_n C dL_law_377 rfl ?_
      refine jj_iconst (v := 0) C dL_law_378 (by decide) ?_
      refine jj_lald (v := (xs 1).toInt64) C 27 rfl (vp_in_iff.mpr (by decide)) rfl dL_law_379 ?_
      refine jj_iload C dL_law_380 rfl ?_
      refine jj_i2l C dL_law_382 rfl ?_
      refine jj_lcmp_eqT (tgt := 389) C dL_law_383 dL_law_384 (by decide) rfl ?_
      refine jj_goto (tgt := 2259) C dL_law_389 (by decide) ?_
      exact jj_loc [7, 2] rfl (jj_drop [] rfl (by decide) (jj_widen (k := 600006) (n := 7302072) (jj_le rfl) (jj_le rfl) hend))

set_option maxHeartbeats 4000000 in
set_option maxRecDepth 100000 in
theorem law_c2 {p : Program} {l : Launch} {e : Env} {s : State} {m : MethodId} {below : List Frame} {meth : Method} {c : Code} (hl : l.stackTraces = false) {D : va_G} {cA : Nat → ClassId} {ak : (Nat → Nat) × (Nat → Nat)} {A : Nat → Prop} {b : Nat} {xs : Nat → Int32} {Q : State → Prop} (C : jj_C p l s m #[Value.ref b] meth c code 9 R_law ret D cA A ak) (hX : va_X b 6 xs s s.heap) (hbl : b < s.heap.size) (hbA : ¬ A b) (hend : jj_J p l e room_1 s m #[Value.ref b] below meth c 9 A Q (jj_X D A []) 600006 7302072 2259 [(0, .ref b), (5, .int 0)] []) (q_1 q_4 q_5 q_6 q_7 q_8 q_9 q_10 q_11 q_12 q_13 q_14 q_15 q_16 q_17 q_18 q_19 q_20 q_21 q_22 q_23 q_28 q_31 q_32 q_33 q_34 q_35 q_36 q_37 q_38 q_39 q_40 q_41 q_42 q_43 q_44 : Nat) (f_24 : Nat → Option Nat) (f_25 : Nat → Option Nat) (c_26 : f_24 0 = some q_11) (c_27 : f_25 0 = some q_17) : jj_J p l e room_1 s m #[Value.ref b] below meth c 9 A Q (jj_X D A [(q_1, .inr (11, [.ref q_4, .int 0, .int (-1), .ref q_6, .ref q_12, .ref q_18, .ref q_20, .int 0, .int 0, .ref q_21])), (q_4, .inr (10, [.ref q_5, .int 0, .int 0, .int 0, .int 0, .int 0, .int (-1)])), (q_5, .inl (cA 1, 400, .inl (fun _ => 0))), (q_6, .inr (2, [.int 1, .int 0, .int 0, .int 0, .int 100, .int 0, .int 0, .int 0, .int 0, .int 0, .ref q_7, .ref q_8, .ref q_9, .ref q_10])), (q_7, .inl (cA 2, 6, .inr (.inl (fun _ => 0)))), (q_10, .inl (cA 7, 12, .inr (.inr (.inr (.inr f_24))))), (q_11, .inr (7, [.int 0, .int 0, .int 0, .long 0, .long 0])), (q_12, .inr (2, [.int 1, .int 0, .int 0, .int 0, .int 100, .int 0, .int 0, .int 0, .int 0, .int 0, .ref q_13, .ref q_14, .ref q_15, .ref q_16])), (q_13, .inl (cA 2, 6, .inr (.inl (fun _ => 0)))), (q_16, .inl (cA 7, 12, .inr (.inr (.inr (.inr f_25))))), (q_17, .inr (7, [.int 0, .int 0, .int 0, .long 0, .long 0])), (q_18, .inr (3, [.ref q_19, .long 0, .long 0, .long 0, .long 0, .long 0])), (q_20, .inl (cA 5, 10, .inr (.inr (.inr (.inr (fun _ => none)))))), (q_21, .inr (6, [.ref q_22, .int 0, .ref q_23])), (q_22, .inl (cA 0, 1300, .inl (fun _ => 0))), (q_23, .inl (cA 0, 20, .inl (fun _ => 0))), (q_28, .inr (12, [.ref q_31, .ref q_32, .ref q_33, .ref q_34, .ref q_35, .ref q_36, .int 0, .int 0, .long 0, .long 0, .ref q_37, .ref q_38, .ref q_39, .int 0, .int 0, .int 0, .int 0, .int 0, .int (-1), .int 0, .int 0, .ref q_40, .ref q_41, .ref q_42, .int 0])), (q_32, .inl (cA 2, 334, .inr (.inl (fun _ => 0)))), (q_33, .inl (cA 2, 334, .inr (.inl (fun _ => 0)))), (q_34, .inl (cA 2, 334, .inr (.inl (fun _ => 0)))), (q_35, .inl (cA 2, 334, .inr (.inl (fun _ => 0)))), (q_36, .inl (cA 2, 3340, .inr (.inl (fun _ => 0)))), (q_37, .inl (cA 2, 12, .inr (.inl (fun _ => 0)))), (q_38, .inl (cA 3, 12, .inl (fun _ => 0))), (q_39, .inl (cA 0, 400, .inl (fun _ => 0))), (q_40, .inl (cA 2, 6, .inr (.inl (fun _ => 0)))), (q_41, .inl (cA 2, 6, .inr (.inl (fun _ => 0)))), (q_42, .inl (cA 0, 2400, .inl (fun _ => 0))), (q_31, .inl (cA 2, 334, .inr (.inl (vp_updL (vp_updL (fun _ => 0) 0 1) 4 100)))), (q_43, .inl (cA 2, 1, .inr (.inl (fun _ => 0)))), (q_44, .inl (cA 4, 1, .inr (.inr (.inr (.inl (fun _ => 0))))))]) 156 10481 392 [(5, .int 0), (4, .ref q_44), (3, .ref q_43), (2, .ref q_28), (1, .ref q_1), (0, .ref b)] [] := by
  refine jj_aload_n C dL_law_392 rfl ?_
  refine jq_callV (rest := []) C (ct_X10_parseFund_1 hl D cA ak q_1 q_4 q_12 q_13 q_6 q_18 q_20 q_21 q_5 q_14 q_15 q_16) [0, 1, 7, 8] [2, 3, 4, 5, 6, 9, 10, 11, 12, 13, 14, 15, 16, 17, 18, 19, 20, 21, 22, 23, 24, 25, 26, 27, 28, 29, 30] rfl rfl (by decide) (by decide) (by decide) 0 rfl rfl rfl jw_1010 jw_1011 jw_1012 jw_271 jw_686 jn_X10_parseFund rfl (jj_le rfl) (jj_le rfl) (jj_le rfl) (jj_le rfl) (jj_le rfl) dL_law_393 rfl (fun _ _ hX => hX.elim) (fun w1 r O_47 => ?_)
  obtain rfl := O_47
  refine jj_left ?_
  refine jj_aload_n C dL_law_396 rfl ?_
  refine jq_callV (rest := [.int (-1)]) C (ct_X11_parseFund_1 hl D cA ak q_28 q_35 q_31 q_32 q_33 q_34 q_36 q_37 q_38 q_39 q_40 q_41 q_42) [12, 16] [0, 1, 2, 3, 4, 5, 6, 7, 8, 9, 10, 11, 13, 14, 15, 17, 18, 19, 20, 21, 22, 23, 24, 25, 26] rfl rfl (by decide) (by decide) (by decide) 0 rfl rfl rfl jw_1014 jw_1015 jw_1016 jw_224 jw_756 jn_X11_parseFund rfl (jj_le rfl) (jj_le rfl) (jj_le rfl) (jj_le rfl) (jj_le rfl) dL_law_397 rfl (fun _ _ hX => hX.elim) (fun w1 r O_49 => ?_)
  obtain ⟨rfl, rfl⟩ := O_49
  refine jj_apd rfl ?_
  refine jj_icmp_eqT (tgt := 2259) C dL_law_400 (by decide) (by decide) ?_
  exact jj_loc [5, 0] rfl (jj_drop [] rfl (by decide) (jj_widen (k := 600006) (n := 7302072) (jj_le rfl) (jj_le rfl) hend))

set_option maxHeartbeats 4000000 in
set_option maxRecDepth 100000 in
theorem law_c3 {p : Program} {l : Launch} {e : Env} {s : State} {m : MethodId} {below : List Frame} {meth : Method} {c : Code} (hl : l.stackTraces = false) {D : va_G} {cA : Nat → ClassId} {ak : (Nat → Nat) × (Nat → Nat)} {A : Nat → Prop} {b : Nat} {xs : Nat → Int32} {Q : State → Prop} (C : jj_C p l s m #[Value.ref b] meth c code 9 R_law ret D cA A ak) (hX : va_X b 6 xs s s.heap) (hbl : b < s.heap.size) (hbA : ¬ A b) (hend : jj_J p l e room_1 s m #[Value.ref b] below meth c 9 A Q (jj_X D A []) 600006 7302072 2259 [(0, .ref b), (5, .int 0)] []) (q_1 q_4 q_5 q_6 q_7 q_8 q_9 q_10 q_11 q_12 q_13 q_14 q_15 q_16 q_17 q_18 q_19 q_20 q_21 q_22 q_23 q_28 q_31 q_32 q_33 q_34 q_35 q_36 q_37 q_38 q_39 q_40 q_41 q_42 q_43 q_44 : Nat) (f_24 : Nat → Option Nat) (f_25 : Nat → Option Nat) (c_26 : f_24 0 = some q_11) (c_27 : f_25 0 = some q_17) : jj_J p l e room_1 s m #[Value.ref b] below meth c 9 A Q (jj_X D A [(q_1, .inr (11, [.ref q_4, .int 0, .int (-1), .ref q_6, .ref q_12, .ref q_18, .ref q_20, .int 0, .int 0, .ref q_21])), (q_4, .inr (10, [.ref q_5, .int 0, .int 0, .int 0, .int 0, .int 0, .int (-1)])), (q_5, .inl (cA 1, 400, .inl (fun _ => 0))), (q_6, .inr (2, [.int 1, .int 0, .int 0, .int 0, .int 100, .int 0, .int 0, .int 0, .int 0, .int 0, .ref q_7, .ref q_8, .ref q_9, .ref q_10])), (q_7, .inl (cA 2, 6, .inr (.inl (fun _ => 0)))), (q_10, .inl (cA 7, 12, .inr (.inr (.inr (.inr f_24))))), (q_11, .inr (7, [.int 0, .int 0, .int 0, .long 0, .long 0])), (q_12, .inr (2, [.int 1, .int 0, .int 0, .int 0, .int 100, .int 0, .int 0, .int 0, .int 0, .int 0, .ref q_13, .ref q_14, .ref q_15, .ref q_16])), (q_13, .inl (cA 2, 6, .inr (.inl (fun _ => 0)))), (q_16, .inl (cA 7, 12, .inr (.inr (.inr (.inr f_25))))), (q_17, .inr (7, [.int 0, .int 0, .int 0, .long 0, .long 0])), (q_18, .inr (3, [.ref q_19, .long 0, .long 0, .long 0, .long 0, .long 0])), (q_20, .inl (cA 5, 10, .inr (.inr (.inr (.inr (fun _ => none)))))), (q_21, .inr (6, [.ref q_22, .int 0, .ref q_23])), (q_22, .inl (cA 0, 1300, .inl (fun _ => 0))), (q_23, .inl (cA 0, 20, .inl (fun _ => 0))), (q_28, .inr (12, [.ref q_31, .ref q_32, .ref q_33, .ref q_34, .ref q_35, .ref q_36, .int 0, .int 0, .long 0, .long 0, .ref q_37, .ref q_38, .ref q_39, .int 0, .int 0, .int 0, .int 0, .int 0, .int (-1), .int 0, .int 0, .ref q_40, .ref q_41, .ref q_42, .int 0])), (q_32, .inl (cA 2, 334, .inr (.inl (fun _ => 0)))), (q_33, .inl (cA 2, 334, .inr (.inl (fun _ => 0)))), (q_34, .inl (cA 2, 334, .inr (.inl (fun _ => 0)))), (q_35, .inl (cA 2, 334, .inr (.inl (fun _ => 0)))), (q_36, .inl (cA 2, 3340, .inr (.inl (fun _ => 0)))), (q_37, .inl (cA 2, 12, .inr (.inl (fun _ => 0)))), (q_38, .inl (cA 3, 12, .inl (fun _ => 0))), (q_39, .inl (cA 0, 400, .inl (fun _ => 0))), (q_40, .inl (cA 2, 6, .inr (.inl (fun _ => 0)))), (q_41, .inl (cA 2, 6, .inr (.inl (fun _ => 0)))), (q_42, .inl (cA 0, 2400, .inl (fun _ => 0))), (q_31, .inl (cA 2, 334, .inr (.inl (vp_updL (vp_updL (fun _ => 0) 0 1) 4 100)))), (q_43, .inl (cA 2, 1, .inr (.inl (fun _ => 0)))), (q_44, .inl (cA 4, 1, .inr (.inr (.inr (.inl (fun _ => 0))))))]) 156 10481 405 [(5, .int 0), (4, .ref q_44), (3, .ref q_43), (2, .ref q_28), (1, .ref q_1), (0, .ref b)] [] := by
  refine jj_aload_n C dL_law_405 rfl ?_
  refine jq_callV (rest := []) C (ct_X10_errorCode_1 hl D cA ak q_1 q_4 q_6 q_12 q_18 q_20 q_21) [0] [1, 2, 3, 4, 5, 6, 7, 8, 9, 10, 11, 12, 13, 14, 15, 16, 17, 18, 19, 20, 21, 22, 23, 24, 25, 26, 27, 28, 29, 30] rfl rfl (by decide) (by decide) (by decide) 0 rfl rfl rfl jw_1018 jw_1019 jw_1020 jw_271 jw_757 jn_X10_errorCode rfl (jj_le rfl) (jj_le rfl) (jj_le rfl) (jj_le rfl) (jj_le rfl) dL_law_406 rfl (fun _ _ hX => hX.elim) (fun w1 r O_47 => ?_)
  obtain rfl := O_47
  refine jj_left ?_
  refine jj_aload_n C dL_law_409 rfl ?_
  refine jq_callV (rest := [.int 0]) C (ct_X11_errorCode_1 hl D cA ak q_28 q_31 q_32 q_33 q_34 q_35 q_36 q_37 q_38 q_39 q_40 q_41 q_42) [15] [0, 1, 2, 3, 4, 5, 6, 7, 8, 9, 10, 11, 12, 13, 14, 16, 17, 18, 19, 20, 21, 22, 23, 24, 25, 26, 27, 28, 29] rfl rfl (by decide) (by decide) (by decide) 0 rfl rfl rfl jw_1022 jw_1023 jw_1024 jw_224 jw_758 jn_X11_errorCode rfl (jj_le rfl) (jj_le rfl) (jj_le rfl) (jj_le rfl) (jj_le rfl) dL_law_410 rfl (fun _ _ hX => hX.elim) (fun w1 r O_49 => ?_)
  obtain ⟨rfl, rfl⟩ := O_49
  refine jj_apd rfl ?_
  refine jj_icmp_eqT (tgt := 2259) C dL_law_413 (by decide) (by decide) ?_
  exact jj_loc [5, 0] rfl (jj_drop [] rfl (by decide) (jj_widen (k := 600006) (n := 7302072) (jj_le rfl) (jj_le rfl) hend))

set_option maxHeartbeats 4000000 in
set_option maxRecDepth 100000 in
theorem law_c4 {p : Program} {l : Launch} {e : Env} {s : State} {m : MethodId} {below : List Frame} {meth : Method} {c : Code} (hl : l.stackTraces = false) {D : va_G} {cA : Nat → ClassId} {ak : (Nat → Nat) × (Nat → Nat)} {A : Nat → Prop} {b : Nat} {xs : Nat → Int32} {Q : State → Prop} (C : jj_C p l s m #[Value.ref b] meth c code 9 R_law ret D cA A ak) (hX : va_X b 6 xs s s.heap) (hbl : b < s.heap.size) (hbA : ¬ A b) (hend : jj_J p l e room_1 s m #[Value.ref b] below meth c 9 A Q (jj_X D A []) 600006 7302072 2259 [(0, .ref b), (5, .int 0)] []) (q_1 q_4 q_5 q_6 q_7 q_8 q_9 q_10 q_11 q_12 q_13 q_14 q_15 q_16 q_17 q_18 q_19 q_20 q_21 q_22 q_23 q_28 q_31 q_32 q_33 q_34 q_35 q_36 q_37 q_38 q_39 q_40 q_41 q_42 q_43 q_44 : Nat) (f_24 : Nat → Option Nat) (f_25 : Nat → Option Nat) (c_26 : f_24 0 = some q_11) (c_27 : f_25 0 = some q_17) : jj_J p l e room_1 s m #[Value.ref b] below meth c 9 A Q (jj_X D A [(q_1, .inr (11, [.ref q_4, .int 0, .int (-1), .ref q_6, .ref q_12, .ref q_18, .ref q_20, .int 0, .int 0, .ref q_21])), (q_4, .inr (10, [.ref q_5, .int 0, .int 0, .int 0, .int 0, .int 0, .int (-1)])), (q_5, .inl (cA 1, 400, .inl (fun _ => 0))), (q_6, .inr (2, [.int 1, .int 0, .int 0, .int 0, .int 100, .int 0, .int 0, .int 0, .int 0, .int 0, .ref q_7, .ref q_8, .ref q_9, .ref q_10])), (q_7, .inl (cA 2, 6, .inr (.inl (fun _ => 0)))), (q_10, .inl (cA 7, 12, .inr (.inr (.inr (.inr f_24))))), (q_11, .inr (7, [.int 0, .int 0, .int 0, .long 0, .long 0])), (q_12, .inr (2, [.int 1, .int 0, .int 0, .int 0, .int 100, .int 0, .int 0, .int 0, .int 0, .int 0, .ref q_13, .ref q_14, .ref q_15, .ref q_16])), (q_13, .inl (cA 2, 6, .inr (.inl (fun _ => 0)))), (q_16, .inl (cA 7, 12, .inr (.inr (.inr (.inr f_25))))), (q_17, .inr (7, [.int 0, .int 0, .int 0, .long 0, .long 0])), (q_18, .inr (3, [.ref q_19, .long 0, .long 0, .long 0, .long 0, .long 0])), (q_20, .inl (cA 5, 10, .inr (.inr (.inr (.inr (fun _ => none)))))), (q_21, .inr (6, [.ref q_22, .int 0, .ref q_23])), (q_22, .inl (cA 0, 1300, .inl (fun _ => 0))), (q_23, .inl (cA 0, 20, .inl (fun _ => 0))), (q_28, .inr (12, [.ref q_31, .ref q_32, .ref q_33, .ref q_34, .ref q_35, .ref q_36, .int 0, .int 0, .long 0, .long 0, .ref q_37, .ref q_38, .ref q_39, .int 0, .int 0, .int 0, .int 0, .int 0, .int (-1), .int 0, .int 0, .ref q_40, .ref q_41, .ref q_42, .int 0])), (q_32, .inl (cA 2, 334, .inr (.inl (fun _ => 0)))), (q_33, .inl (cA 2, 334, .inr (.inl (fun _ => 0)))), (q_34, .inl (cA 2, 334, .inr (.inl (fun _ => 0)))), (q_35, .inl (cA 2, 334, .inr (.inl (fun _ => 0)))), (q_36, .inl (cA 2, 3340, .inr (.inl (fun _ => 0)))), (q_37, .inl (cA 2, 12, .inr (.inl (fun _ => 0)))), (q_38, .inl (cA 3, 12, .inl (fun _ => 0))), (q_39, .inl (cA 0, 400, .inl (fun _ => 0))), (q_40, .inl (cA 2, 6, .inr (.inl (fun _ => 0)))), (q_41, .inl (cA 2, 6, .inr (.inl (fun _ => 0)))), (q_42, .inl (cA 0, 2400, .inl (fun _ => 0))), (q_31, .inl (cA 2, 334, .inr (.inl (vp_updL (vp_updL (fun _ => 0) 0 1) 4 100)))), (q_43, .inl (cA 2, 1, .inr (.inl (fun _ => 0)))), (q_44, .inl (cA 4, 1, .inr (.inr (.inr (.inl (fun _ => 0))))))]) 156 10481 418 [(5, .int 0), (4, .ref q_44), (3, .ref q_43), (2, .ref q_28), (1, .ref q_1), (0, .ref b)] [] := by
  refine jj_aload_n C dL_law_418 rfl ?_
  refine jq_callV (rest := []) C (ct_X10_errorPosition_1 hl D cA ak q_1 q_4 q_6 q_12 q_18 q_20 q_21) [0] [1, 2, 3, 4, 5, 6, 7, 8, 9, 10, 11, 12, 13, 14, 15, 16, 17, 18, 19, 20, 21, 22, 23, 24, 25, 26, 27, 28, 29, 30] rfl rfl (by decide) (by decide) (by decide) 0 rfl rfl rfl jw_1026 jw_1027 jw_1028 jw_271 jw_759 jn_X10_errorPosition rfl (jj_le rfl) (jj_le rfl) (jj_le rfl) (jj_le rfl) (jj_le rfl) dL_law_419 rfl (fun _ _ hX => hX.elim) (fun w1 r O_47 => ?_)
  obtain rfl := O_47
  refine jj_left ?_
  refine jj_aload_n C dL_law_422 rfl ?_
  refine jq_callV (rest := [.int (-1)]) C (ct_X11_errorPosition_1 hl D cA ak q_28 q_31 q_32 q_33 q_34 q_35 q_36 q_37 q_38 q_39 q_40 q_41 q_42) [15] [0, 1, 2, 3, 4, 5, 6, 7, 8, 9, 10, 11, 12, 13, 14, 16, 17, 18, 19, 20, 21, 22, 23, 24, 25, 26, 27, 28, 29] rfl rfl (by decide) (by decide) (by decide) 0 rfl rfl rfl jw_1030 jw_1031 jw_1032 jw_224 jw_760 jn_X11_errorPosition rfl (jj_le rfl) (jj_le rfl) (jj_le rfl) (jj_le rfl) (jj_le rfl) dL_law_423 rfl (fun _ _ hX => hX.elim) (fun w1 r O_49 => ?_)
  obtain ⟨rfl, rfl⟩ := O_49
  refine jj_apd rfl ?_
  refine jj_icmp_eqT (tgt := 2259) C dL_law_426 (by decide) (by decide) ?_
  exact jj_loc [5, 0] rfl (jj_drop [] rfl (by decide) (jj_widen (k := 600006) (n := 7302072) (jj_le rfl) (jj_le rfl) hend))

set_option maxHeartbeats 4000000 in
set_option maxRecDepth 100000 in
theorem law_c5 {p : Program} {l : Launch} {e : Env} {s : State} {m : MethodId} {below : List Frame} {meth : Method} {c : Code} (hl : l.stackTraces = false) {D : va_G} {cA : Nat → ClassId} {ak : (Nat → Nat) × (Nat → Nat)} {A : Nat → Prop} {b : Nat} {xs : Nat → Int32} {Q : State → Prop} (C : jj_C p l s m #[Value.ref b] meth c code 9 R_law ret D cA A ak) (hX : va_X b 6 xs s s.heap) (hbl : b < s.heap.size) (hbA : ¬ A b) (hend : jj_J p l e room_1 s m #[Value.ref b] below meth c 9 A Q (jj_X D A []) 600006 7302072 2259 [(0, .ref b), (5, .int 0)] []) (q_1 q_4 q_5 q_6 q_7 q_8 q_9 q_10 q_11 q_12 q_13 q_14 q_15 q_16 q_17 q_18 q_19 q_20 q_21 q_22 q_23 q_28 q_31 q_32 q_33 q_34 q_35 q_36 q_37 q_38 q_39 q_40 q_41 q_42 q_43 q_44 : Nat) (f_24 : Nat → Option Nat) (f_25 : Nat → Option Nat) (c_26 : f_24 0 = some q_11) (c_27 : f_25 0 = some q_17) : jj_J p l e room_1 s m #[Value.ref b] below meth c 9 A Q (jj_X D A [(q_1, .inr (11, [.ref q_4, .int 0, .int (-1), .ref q_6, .ref q_12, .ref q_18, .ref q_20, .int 0, .int 0, .ref q_21])), (q_4, .inr (10, [.ref q_5, .int 0, .int 0, .int 0, .int 0, .int 0, .int (-1)])), (q_5, .inl (cA 1, 400, .inl (fun _ => 0))), (q_6, .inr (2, [.int 1, .int 0, .int 0, .int 0, .int 100, .int 0, .int 0, .int 0, .int 0, .int 0, .ref q_7, .ref q_8, .ref q_9, .ref q_10])), (q_7, .inl (cA 2, 6, .inr (.inl (fun _ => 0)))), (q_10, .inl (cA 7, 12, .inr (.inr (.inr (.inr f_24))))), (q_11, .inr (7, [.int 0, .int 0, .int 0, .long 0, .long 0])), (q_12, .inr (2, [.int 1, .int 0, .int 0, .int 0, .int 100, .int 0, .int 0, .int 0, .int 0, .int 0, .ref q_13, .ref q_14, .ref q_15, .ref q_16])), (q_13, .inl (cA 2, 6, .inr (.inl (fun _ => 0)))), (q_16, .inl (cA 7, 12, .inr (.inr (.inr (.inr f_25))))), (q_17, .inr (7, [.int 0, .int 0, .int 0, .long 0, .long 0])), (q_18, .inr (3, [.ref q_19, .long 0, .long 0, .long 0, .long 0, .long 0])), (q_20, .inl (cA 5, 10, .inr (.inr (.inr (.inr (fun _ => none)))))), (q_21, .inr (6, [.ref q_22, .int 0, .ref q_23])), (q_22, .inl (cA 0, 1300, .inl (fun _ => 0))), (q_23, .inl (cA 0, 20, .inl (fun _ => 0))), (q_28, .inr (12, [.ref q_31, .ref q_32, .ref q_33, .ref q_34, .ref q_35, .ref q_36, .int 0, .int 0, .long 0, .long 0, .ref q_37, .ref q_38, .ref q_39, .int 0, .int 0, .int 0, .int 0, .int 0, .int (-1), .int 0, .int 0, .ref q_40, .ref q_41, .ref q_42, .int 0])), (q_32, .inl (cA 2, 334, .inr (.inl (fun _ => 0)))), (q_33, .inl (cA 2, 334, .inr (.inl (fun _ => 0)))), (q_34, .inl (cA 2, 334, .inr (.inl (fun _ => 0)))), (q_35, .inl (cA 2, 334, .inr (.inl (fun _ => 0)))), (q_36, .inl (cA 2, 3340, .inr (.inl (fun _ => 0)))), (q_37, .inl (cA 2, 12, .inr (.inl (fun _ => 0)))), (q_38, .inl (cA 3, 12, .inl (fun _ => 0))), (q_39, .inl (cA 0, 400, .inl (fun _ => 0))), (q_40, .inl (cA 2, 6, .inr (.inl (fun _ => 0)))), (q_41, .inl (cA 2, 6, .inr (.inl (fun _ => 0)))), (q_42, .inl (cA 0, 2400, .inl (fun _ => 0))), (q_31, .inl (cA 2, 334, .inr (.inl (vp_updL (vp_updL (fun _ => 0) 0 1) 4 100)))), (q_43, .inl (cA 2, 1, .inr (.inl (fun _ => 0)))), (q_44, .inl (cA 4, 1, .inr (.inr (.inr (.inl (fun _ => 0))))))]) 156 10481 431 [(5, .int 0), (4, .ref q_44), (3, .ref q_43), (2, .ref q_28), (1, .ref q_1), (0, .ref b)] [] := by
  refine jj_aload_n C dL_law_431 rfl ?_
  refine jj_aload_n C dL_law_432 rfl ?_
  refine jj_iload C dL_law_433 rfl ?_
  refine jj_iconst (v := 1) C dL_law_435 (by decide) ?_
  refine jj_iadd (v := 1) C dL_law_436 (by decide) ?_
  refine jj_xld (v := xs 1) C hX hbl hbA (vp_in_iff.mpr (by decide)) rfl dL_law_437 ?_
  refine jj_aload_n C dL_law_438 rfl ?_
  refine jj_iload C dL_law_439 rfl ?_
  refine jj_iconst (v := 2) C dL_law_441 (by decide) ?_
  refine jj_iadd (v := 2) C dL_law_442 (by decide) ?_
  refine jj_xld (v := xs 2) C hX hbl hbA (vp_in_iff.mpr (by decide)) rfl dL_law_443 ?_
  refine jj_aload_n C dL_law_444 rfl ?_
  refine jq_callSW (rest := []) C (ct_L_subscribe_1 hl D cA ak q_1 q_43 q_6 q_20 q_7 q_10 q_11 q_4 q_12 q_18 q_21 q_8 q_9 (xs 1) (xs 2) f_24 c_26) [0, 29, 3, 12, 4, 5, 6] [1, 2, 7, 8, 9, 10, 11, 13, 14, 15, 16, 17, 18, 19, 20, 21, 22, 23, 24, 25, 26, 27, 28, 30] rfl rfl (by decide) (by decide) (by decide) jw_1040 jw_1041 jw_985 jw_1039 jn_L_subscribe rfl (jj_le rfl) (jj_le rfl) (jj_le rfl) (jj_le rfl) (jj_le rfl) dL_law_445 rfl (fun _ _ hX => hX.elim) (fun w1 r O_47 => ?_)
  rcases O_47 with ⟨c_48, rfl, rfl⟩ | ⟨c_49, c_50, rfl, rfl⟩ | ⟨c_51, c_52, c_53, rfl, rfl⟩ | ⟨c_54, c_55, c_56, c_57, rfl, rfl⟩ | ⟨c_58, c_59, c_60, c_61, rfl, rfl⟩
  · refine jj_apd rfl ?_
    refine jj_istore C dL_law_448 (by decide) rfl ?_
    refine jj_aload_n C dL_law_450 rfl ?_
    refine jj_aload_n C dL_law_451 rfl ?_
    refine jj_iload C dL_law_452 rfl ?_
    refine jj_iconst (v := 1) C dL_law_454 (by decide) ?_
    refine jj_iadd (v := 1) C dL_law_455 (by decide) ?_
    refine jj_xld (v := xs 1) C hX hbl hbA (vp_in_iff.mpr (by decide)) rfl dL_law_456 ?_
    refine jj_aload_n C dL_law_457 rfl ?_
    refine jj_iload C dL_law_458 rfl ?_
    refine jj_iconst (v := 2) C dL_law_460 (by decide) ?_
    refine jj_iadd (v := 2) C dL_law_461 (by decide) ?_
    refine jj_xld (v := xs 2) C hX hbl hbA (vp_in_iff.mpr (by decide)) rfl dL_law_462 ?_
    refine jq_callV (rest := []) C (ct_X11_subscribe_1 hl D cA ak q_28 q_31 q_32 q_36 q_33 q_34 q_35 q_37 q_38 q_39 q_40 q_41 q_42 (xs 1) (xs 2)) [10, 22, 11, 15] [0, 1, 2, 3, 4, 5, 6, 7, 8, 9, 12, 13, 14, 16, 17, 18, 19, 20, 21, 23, 24] rfl rfl (by decide) (by decide) (by decide) 0 rfl rfl rfl jw_1043 jw_1044 jw_1045 jw_224 jw_350 jn_X11_subscribe rfl (jj_le rfl) (jj_le rfl) (jj_le rfl) (jj_le rfl) (jj_le rfl) dL_law_463 rfl (fun _ _ hX => hX.elim) (fun w1 r O_63 => ?_)
    rcases O_63 with ⟨c_64, rfl, rfl⟩ | ⟨c_65, c_66, rfl, rfl⟩ | ⟨c_67, c_68, c_69, rfl, rfl⟩ | ⟨c_70, c_71, c_72, c_73, rfl, rfl⟩ | ⟨f_74, c_75, c_76, c_77, c_78, rfl, rfl⟩
    · refine jj_apd rfl ?_
      refine jj_istore C dL_law_466 (by decide) rfl ?_
      refine jj_aload_n C dL_law_468 rfl ?_
      refine jq_callV (rest := []) C (ct_X11_thrown_2 hl D cA ak q_28 q_31 q_32 q_33 q_34 q_35 q_36 q_37 q_38 q_39 q_40 q_41 q_42) [24] [0, 1, 2, 3, 4, 5, 6, 7, 8, 9, 10, 11, 12, 13, 14, 15, 16, 17, 18, 19, 20, 21, 22, 23] rfl rfl (by decide) (by decide) (by decide) 0 rfl rfl rfl jw_993 jw_994 jw_995 jw_224 jw_992 jn_X11_thrown rfl (jj_le rfl) (jj_le rfl) (jj_le rfl) (jj_le rfl) (jj_le rfl) dL_law_469 rfl (fun _ _ hX => hX.elim) (fun w1 r O_80 => ?_)
      obtain ⟨rfl, rfl⟩ := O_80
      refine jj_apd rfl ?_
      refine jj_iload C dL_law_472 rfl ?_
      refine jj_icmp_eqT (tgt := 479) C dL_law_474 (by decide) (by decide) ?_
      refine jj_iload C dL_law_479 rfl ?_
      refine jj_if_neT (tgt := 496) C dL_law_481 (by decide) (by decide) ?_
      refine jj_goto (tgt := 2259) C dL_law_496 (by decide) ?_
      exact jj_loc [7, 2] rfl (jj_drop [] rfl (by decide) (jj_widen (k := 600006) (n := 7302072) (jj_le rfl) (jj_le rfl) hend))
    · refine jj_apd rfl ?_
      refine jj_istore C dL_law_466 (by decide) rfl ?_
      refine jj_aload_n C dL_law_468 rfl ?_
      refine jq_callV (rest := []) C (ct_X11_thrown_2 hl D cA ak q_28 q_31 q_32 q_33 q_34 q_35 q_36 q_37 q_38 q_39 q_40 q_41 q_42) [24] [0, 1, 2, 3, 4, 5, 6, 7, 8, 9, 10, 11, 12, 13, 14, 15, 16, 17, 18, 19, 20, 21, 22, 23] rfl rfl (by decide) (by decide) (by decide) 0 rfl rfl rfl jw_993 jw_994 jw_995 jw_224 jw_992 jn_X11_thrown rfl (jj_le rfl) (jj_le rfl) (jj_le rfl) (jj_le rfl) (jj_le rfl) dL_law_469 rfl (fun _ _ hX => hX.elim) (fun w1 r O_82 => ?_)
      obtain ⟨rfl, rfl⟩ := O_82
      refine jj_apd rfl ?_
      refine jj_iload C dL_law_472 rfl ?_
      refine jj_icmp_eqT (tgt := 479) C dL_law_474 (by decide) (by decide) ?_
      refine jj_iload C dL_law_479 rfl ?_
      refine jj_if_neT (tgt := 496) C dL_law_481 (by decide) (by decide) ?_
      refine jj_goto (tgt := 2259) C dL_law_496 (by decide) ?_
      exact jj_loc [7, 2] rfl (jj_drop [] rfl (by decide) (jj_widen (k := 600006) (n := 7302072) (jj_le rfl) (jj_le rfl) hend))
    · refine jj_apd rfl ?_
      refine jj_istore C dL_law_466 (by decide) rfl ?_
      refine jj_aload_n C dL_law_468 rfl ?_
      refine jq_callV (rest := []) C (ct_X11_thrown_4 hl D cA ak q_28 q_31 q_32 q_33 q_34 q_35 q_36 q_37 q_38 q_39 q_40 q_41 q_42) [24] [0, 1, 2, 3, 4, 5, 6, 7, 8, 9, 10, 11, 12, 13, 14, 15, 16, 17, 18, 19, 20, 21, 22, 23] rfl rfl (by decide) (by decide) (by decide) 0 rfl rfl rfl jw_993 jw_994 jw_995 jw_224 jw_992 jn_X11_thrown rfl (jj_le rfl) (jj_le rfl) (jj_le rfl) (jj_le rfl) (jj_le rfl) dL_law_469 rfl (fun _ _ hX => hX.elim) (fun w1 r O_84 => ?_)
      obtain ⟨rfl, rfl⟩ := O_84
      refine jj_apd rfl ?_
      refine jj_iload C dL_law_472 rfl ?_
      refine jj_icmp_eqF (tgt := 479) C dL_law_474 (by decide) (by decide) ?_
      refine jj_iconst (v := 0) C dL_law_477 (by decide) ?_
      exfalso; have z0 := jc_lt (a := (xs 1).toInt) (b := (0)) c_48 rfl (by decide); have z1 := jc_nltL (a := (xs 1).toInt) (b := (0)) c_67 (Int32.toInt_toInt64 _) (by decide); have z2 := jc_nltL (a := (0)) (b := (xs 1).toInt) c_68 (by decide) (Int32.toInt_toInt64 _); have z3 := jc_ltL (a := (xs 2).toInt) (b := (1)) c_69 (Int32.toInt_toInt64 _) (by decide); omega
    · refine jj_apd rfl ?_
      refine jj_istore C dL_law_466 (by decide) rfl ?_
      refine jj_aload_n C dL_law_468 rfl ?_
      refine jq_callV (rest := []) C (ct_X11_thrown_4 hl D cA ak q_28 q_31 q_32 q_33 q_34 q_35 q_36 q_37 q_38 q_39 q_40 q_41 q_42) [24] [0, 1, 2, 3, 4, 5, 6, 7, 8, 9, 10, 11, 12, 13, 14, 15, 16, 17, 18, 19, 20, 21, 22, 23] rfl rfl (by decide) (by decide) (by decide) 0 rfl rfl rfl jw_993 jw_994 jw_995 jw_224 jw_992 jn_X11_thrown rfl (jj_le rfl) (jj_le rfl) (jj_le rfl) (jj_le rfl) (jj_le rfl) dL_law_469 rfl (fun _ _ hX => hX.elim) (fun w1 r O_86 => ?_)
      obtain ⟨rfl, rfl⟩ := O_86
      refine jj_apd rfl ?_
      refine jj_iload C dL_law_472 rfl ?_
      refine jj_icmp_eqF (tgt := 479) C dL_law_474 (by decide) (by decide) ?_
      refine jj_iconst (v := 0) C dL_law_477 (by decide) ?_
      exfalso; have z0 := jc_lt (a := (xs 1).toInt) (b := (0)) c_48 rfl (by decide); have z1 := jc_nltL (a := (xs 1).toInt) (b := (0)) c_70 (Int32.toInt_toInt64 _) (by decide); have z2 := jc_nltL (a := (0)) (b := (xs 1).toInt) c_71 (by decide) (Int32.toInt_toInt64 _); have z3 := jc_nltL (a := (xs 2).toInt) (b := (1)) c_72 (Int32.toInt_toInt64 _) (by decide); have z4 := jc_ltL (a := (9999999)) (b := (xs 2).toInt) c_73 (by decide) (Int32.toInt_toInt64 _); omega
    · refine jj_apd rfl ?_
      refine jj_istore C dL_law_466 (by decide) rfl ?_
      refine jj_aload_n C dL_law_468 rfl ?_
      refine jq_callV (rest := []) C (ct_X11_thrown_5 hl D cA ak q_28 q_31 q_32 q_33 q_34 q_35 q_36 q_37 q_38 q_39 q_40 q_41 q_42) [23] [0, 1, 2, 3, 4, 5, 6, 7, 8, 9, 10, 11, 12, 13, 14, 15, 16, 17, 18, 19, 20, 21, 22, 24] rfl rfl (by decide) (by decide) (by decide) 0 rfl rfl rfl jw_993 jw_994 jw_995 jw_224 jw_992 jn_X11_thrown rfl (jj_le rfl) (jj_le rfl) (jj_le rfl) (jj_le rfl) (jj_le rfl) dL_law_469 rfl (fun _ _ hX => hX.elim) (fun w1 r O_88 => ?_)
      obtain ⟨rfl, rfl⟩ := O_88
      refine jj_apd rfl ?_
      refine jj_iload C dL_law_472 rfl ?_
      refine jj_icmp_eqF (tgt := 479) C dL_law_474 (by decide) (by decide) ?_
      refine jj_iconst (v := 0) C dL_law_477 (by decide) ?_
      exfalso; have z0 := jc_lt (a := (xs 1).toInt) (b := (0)) c_48 rfl (by decide); have z1 := jc_nltL (a := (xs 1).toInt) (b := (0)) c_75 (Int32.toInt_toInt64 _) (by decide); have z2 := jc_nltL (a := (0)) (b := (xs 1).toInt) c_76 (by decide) (Int32.toInt_toInt64 _); have z3 := jc_nltL (a := (xs 2).toInt) (b := (1)) c_77 (Int32.toInt_toInt64 _) (by decide); have z4 := jc_nltL (a := (9999999)) (b := (xs 2).toInt) c_78 (by decide) (Int32.toInt_toInt64 _); omega
  · refine jj_apd rfl ?_
    refine jj_istore C dL_law_448 (by decide) rfl ?_
    refine jj_aload_n C dL_law_450 rfl ?_
    refine jj_aload_n C dL_law_451 rfl ?_
    refine jj_iload C dL_law_452 rfl ?_
    refine jj_iconst (v := 1) C dL_law_454 (by decide) ?_
    refine jj_iadd (v := 1) C dL_law_455 (by decide) ?_
    refine jj_xld (v := xs 1) C hX hbl hbA (vp_in_iff.mpr (by decide)) rfl dL_law_456 ?_
    refine jj_aload_n C dL_law_457 rfl ?_
    refine jj_iload C dL_law_458 rfl ?_
    refine jj_iconst (v := 2) C dL_law_460 (by decide) ?_
    refine jj_iadd (v := 2) C dL_law_461 (by decide) ?_
    refine jj_xld (v := xs 2) C hX hbl hbA (vp_in_iff.mpr (by decide)) rfl dL_law_462 ?_
    refine jq_callV (rest := []) C (ct_X11_subscribe_1 hl D cA ak q_28 q_31 q_32 q_36 q_33 q_34 q_35 q_37 q_38 q_39 q_40 q_41 q_42 (xs 1) (xs 2)) [10, 22, 11, 15] [0, 1, 2, 3, 4, 5, 6, 7, 8, 9, 12, 13, 14, 16, 17, 18, 19, 20, 21, 23, 24] rfl rfl (by decide) (by decide) (by decide) 0 rfl rfl rfl jw_1043 jw_1044 jw_1045 jw_224 jw_350 jn_X11_subscribe rfl (jj_le rfl) (jj_le rfl) (jj_le rfl) (jj_le rfl) (jj_le rfl) dL_law_463 rfl (fun _ _ hX => hX.elim) (fun w1 r O_90 => ?_)
    rcases O_90 with ⟨c_91, rfl, rfl⟩ | ⟨c_92, c_93, rfl, rfl⟩ | ⟨c_94, c_95, c_96, rfl, rfl⟩ | ⟨c_97, c_98, c_99, c_100, rfl, rfl⟩ | ⟨f_101, c_102, c_103, c_104, c_105, rfl, rfl⟩
    · refine jj_apd rfl ?_
      refine jj_istore C dL_law_466 (by decide) rfl ?_
      refine jj_aload_n C dL_law_468 rfl ?_
      refine jq_callV (rest := []) C (ct_X11_thrown_2 hl D cA ak q_28 q_31 q_32 q_33 q_34 q_35 q_36 q_37 q_38 q_39 q_40 q_41 q_42) [24] [0, 1, 2, 3, 4, 5, 6, 7, 8, 9, 10, 11, 12, 13, 14, 15, 16, 17, 18, 19, 20, 21, 22, 23] rfl rfl (by decide) (by decide) (by decide) 0 rfl rfl rfl jw_993 jw_994 jw_995 jw_224 jw_992 jn_X11_thrown rfl (jj_le rfl) (jj_le rfl) (jj_le rfl) (jj_le rfl) (jj_le rfl) dL_law_469 rfl (fun _ _ hX => hX.elim) (fun w1 r O_107 => ?_)
      obtain ⟨rfl, rfl⟩ := O_107
      refine jj_apd rfl ?_
      refine jj_iload C dL_law_472 rfl ?_
      refine jj_icmp_eqT (tgt := 479) C dL_law_474 (by decide) (by decide) ?_
      refine jj_iload C dL_law_479 rfl ?_
      refine jj_if_neT (tgt := 496) C dL_law_481 (by decide) (by decide) ?_
      refine jj_goto (tgt := 2259) C dL_law_496 (by decide) ?_
      exact jj_loc [7, 2] rfl (jj_drop [] rfl (by decide) (jj_widen (k := 600006) (n := 7302072) (jj_le rfl) (jj_le rfl) hend))
    · refine jj_apd rfl ?_
      refine jj_istore C dL_law_466 (by decide) rfl ?_
      refine jj_aload_n C dL_law_468 rfl ?_
      refine jq_callV (rest := []) C (ct_X11_thrown_2 hl D cA ak q_28 q_31 q_32 q_33 q_34 q_35 q_36 q_37 q_38 q_39 q_40 q_41 q_42) [24] [0, 1, 2, 3, 4, 5, 6, 7, 8, 9, 10, 11, 12, 13, 14, 15, 16, 17, 18, 19, 20, 21, 22, 23] rfl rfl (by decide) (by decide) (by decide) 0 rfl rfl rfl jw_993 jw_994 jw_995 jw_224 jw_992 jn_X11_thrown rfl (jj_le rfl) (jj_le rfl) (jj_le rfl) (jj_le rfl) (jj_le rfl) dL_law_469 rfl (fun _ _ hX => hX.elim) (fun w1 r O_109 => ?_)
      obtain ⟨rfl, rfl⟩ := O_109
      refine jj_apd rfl ?_
      refine jj_iload C dL_law_472 rfl ?_
      refine jj_icmp_eqT (tgt := 479) C dL_law_474 (by decide) (by decide) ?_
      refine jj_iload C dL_law_479 rfl ?_
      refine jj_if_neT (tgt := 496) C dL_law_481 (by decide) (by decide) ?_
      refine jj_goto (tgt := 2259) C dL_law_496 (by decide) ?_
      exact jj_loc [7, 2] rfl (jj_drop [] rfl (by decide) (jj_widen (k := 600006) (n := 7302072) (jj_le rfl) (jj_le rfl) hend))
    · refine jj_apd rfl ?_
      refine jj_istore C dL_law_466 (by decide) rfl ?_
      refine jj_aload_n C dL_law_468 rfl ?_
      refine jq_callV (rest := []) C (ct_X11_thrown_4 hl D cA ak q_28 q_31 q_32 q_33 q_34 q_35 q_36 q_37 q_38 q_39 q_40 q_41 q_42) [24] [0, 1, 2, 3, 4, 5, 6, 7, 8, 9, 10, 11, 12, 13, 14, 15, 16, 17, 18, 19, 20, 21, 22, 23] rfl rfl (by decide) (by decide) (by decide) 0 rfl rfl rfl jw_993 jw_994 jw_995 jw_224 jw_992 jn_X11_thrown rfl (jj_le rfl) (jj_le rfl) (jj_le rfl) (jj_le rfl) (jj_le rfl) dL_law_469 rfl (fun _ _ hX => hX.elim) (fun w1 r O_111 => ?_)
      obtain ⟨rfl, rfl⟩ := O_111
      refine jj_apd rfl ?_
      refine jj_iload C dL_law_472 rfl ?_
      refine jj_icmp_eqF (tgt := 479) C dL_law_474 (by decide) (by decide) ?_
      refine jj_iconst (v := 0) C dL_law_477 (by decide) ?_
      exfalso; have z0 := jc_nlt (a := (xs 1).toInt) (b := (0)) c_49 rfl (by decide); have z1 := jc_le (a := (1)) (b := (xs 1).toInt) c_50 (by decide) rfl; have z2 := jc_nltL (a := (xs 1).toInt) (b := (0)) c_94 (Int32.toInt_toInt64 _) (by decide); have z3 := jc_nltL (a := (0)) (b := (xs 1).toInt) c_95 (by decide) (Int32.toInt_toInt64 _); have z4 := jc_ltL (a := (xs 2).toInt) (b := (1)) c_96 (Int32.toInt_toInt64 _) (by decide); omega
    · refine jj_apd rfl ?_
      refine jj_istore C dL_law_466 (by decide) rfl ?_
      refine jj_aload_n C dL_law_468 rfl ?_
      refine jq_callV (rest := []) C (ct_X11_thrown_4 hl D cA ak q_28 q_31 q_32 q_33 q_34 q_35 q_36 q_37 q_38 q_39 q_40 q_41 q_42) [24] [0, 1, 2, 3, 4, 5, 6, 7, 8, 9, 10, 11, 12, 13, 14, 15, 16, 17, 18, 19, 20, 21, 22, 23] rfl rfl (by decide) (by decide) (by decide) 0 rfl rfl rfl jw_993 jw_994 jw_995 jw_224 jw_992 jn_X11_thrown rfl (jj_le rfl) (jj_le rfl) (jj_le rfl) (jj_le rfl) (jj_le rfl) dL_law_469 rfl (fun _ _ hX => hX.elim) (fun w1 r O_113 => ?_)
      obtain ⟨rfl, rfl⟩ := O_113
      refine jj_apd rfl ?_
      refine jj_iload C dL_law_472 rfl ?_
      refine jj_icmp_eqF (tgt := 479) C dL_law_474 (by decide) (by decide) ?_
      refine jj_iconst (v := 0) C dL_law_477 (by decide) ?_
      exfalso; have z0 := jc_nlt (a := (xs 1).toInt) (b := (0)) c_49 rfl (by decide); have z1 := jc_le (a := (1)) (b := (xs 1).toInt) c_50 (by decide) rfl; have z2 := jc_nltL (a := (xs 1).toInt) (b := (0)) c_97 (Int32.toInt_toInt64 _) (by decide); have z3 := jc_nltL (a := (0)) (b := (xs 1).toInt) c_98 (by decide) (Int32.toInt_toInt64 _); have z4 := jc_nltL (a := (xs 2).toInt) (b := (1)) c_99 (Int32.toInt_toInt64 _) (by decide); have z5 := jc_ltL (a := (9999999)) (b := (xs 2).toInt) c_100 (by decide) (Int32.toInt_toInt64 _); omega
    · refine jj_apd rfl ?_
      refine jj_istore C dL_law_466 (by decide) rfl ?_
      refine jj_aload_n C dL_law_468 rfl ?_
      refine jq_callV (rest := []) C (ct_X11_thrown_5 hl D cA ak q_28 q_31 q_32 q_33 q_34 q_35 q_36 q_37 q_38 q_39 q_40 q_41 q_42) [23] [0, 1, 2, 3, 4, 5, 6, 7, 8, 9, 10, 11, 12, 13, 14, 15, 16, 17, 18, 19, 20, 21, 22, 24] rfl rfl (by decide) (by decide) (by decide) 0 rfl rfl rfl jw_993 jw_994 jw_995 jw_224 jw_992 jn_X11_thrown rfl (jj_le rfl) (jj_le rfl) (jj_le rfl) (jj_le rfl) (jj_le rfl) dL_law_469 rfl (fun _ _ hX => hX.elim) (fun w1 r O_115 => ?_)
      obtain ⟨rfl, rfl⟩ := O_115
      refine jj_apd rfl ?_
      refine jj_iload C dL_law_472 rfl ?_
      refine jj_icmp_eqF (tgt := 479) C dL_law_474 (by decide) (by decide) ?_
      refine jj_iconst (v := 0) C dL_law_477 (by decide) ?_
      exfalso; have z0 := jc_nlt (a := (xs 1).toInt) (b := (0)) c_49 rfl (by decide); have z1 := jc_le (a := (1)) (b := (xs 1).toInt) c_50 (by decide) rfl; have z2 := jc_nltL (a := (xs 1).toInt) (b := (0)) c_102 (Int32.toInt_toInt64 _) (by decide); have z3 := jc_nltL (a := (0)) (b := (xs 1).toInt) c_103 (by decide) (Int32.toInt_toInt64 _); have z4 := jc_nltL (a := (xs 2).toInt) (b := (1)) c_104 (Int32.toInt_toInt64 _) (by decide); have z5 := jc_nltL (a := (9999999)) (b := (xs 2).toInt) c_105 (by decide) (Int32.toInt_toInt64 _); omega
  · refine jj_apd rfl ?_
    refine jj_istore C dL_law_448 (by decide) rfl ?_
    refine jj_aload_n C dL_law_450 rfl ?_
    refine jj_aload_n C dL_law_451 rfl ?_
    refine jj_iload C dL_law_452 rfl ?_
    refine jj_iconst (v := 1) C dL_law_454 (by decide) ?_
    refine jj_iadd (v := 1) C dL_law_455 (by decide) ?_
    refine jj_xld (v := xs 1) C hX hbl hbA (vp_in_iff.mpr (by decide)) rfl dL_law_456 ?_
    refine jj_aload_n C dL_law_457 rfl ?_
    refine jj_iload C dL_law_458 rfl ?_
    refine jj_iconst (v := 2) C dL_law_460 (by decide) ?_
    refine jj_iadd (v := 2) C dL_law_461 (by decide) ?_
    refine jj_xld (v := xs 2) C hX hbl hbA (vp_in_iff.mpr (by decide)) rfl dL_law_462 ?_
    refine jq_callV (rest := []) C (ct_X11_subscribe_1 hl D cA ak q_28 q_31 q_32 q_36 q_33 q_34 q_35 q_37 q_38 q_39 q_40 q_41 q_42 (xs 1) (xs 2)) [10, 22, 11, 15] [0, 1, 2, 3, 4, 5, 6, 7, 8, 9, 12, 13, 14, 16, 17, 18, 19, 20, 21, 23, 24] rfl rfl (by decide) (by decide) (by decide) 0 rfl rfl rfl jw_1043 jw_1044 jw_1045 jw_224 jw_350 jn_X11_subscribe rfl (jj_le rfl) (jj_le rfl) (jj_le rfl) (jj_le rfl) (jj_le rfl) dL_law_463 rfl (fun _ _ hX => hX.elim) (fun w1 r O_117 => ?_)
    rcases O_117 with ⟨c_118, rfl, rfl⟩ | ⟨c_119, c_120, rfl, rfl⟩ | ⟨c_121, c_122, c_123, rfl, rfl⟩ | ⟨c_124, c_125, c_126, c_127, rfl, rfl⟩ | ⟨f_128, c_129, c_130, c_131, c_132, rfl, rfl⟩
    · refine jj_apd rfl ?_
      refine jj_istore C dL_law_466 (by decide) rfl ?_
      refine jj_aload_n C dL_law_468 rfl ?_
      refine jq_callV (rest := []) C (ct_X11_thrown_2 hl D cA ak q_28 q_31 q_32 q_33 q_34 q_35 q_36 q_37 q_38 q_39 q_40 q_41 q_42) [24] [0, 1, 2, 3, 4, 5, 6, 7, 8, 9, 10, 11, 12, 13, 14, 15, 16, 17, 18, 19, 20, 21, 22, 23] rfl rfl (by decide) (by decide) (by decide) 0 rfl rfl rfl jw_993 jw_994 jw_995 jw_224 jw_992 jn_X11_thrown rfl (jj_le rfl) (jj_le rfl) (jj_le rfl) (jj_le rfl) (jj_le rfl) dL_law_469 rfl (fun _ _ hX => hX.elim) (fun w1 r O_134 => ?_)
      obtain ⟨rfl, rfl⟩ := O_134
      refine jj_apd rfl ?_
      refine jj_iload C dL_law_472 rfl ?_
      refine jj_icmp_eqF (tgt := 479) C dL_law_474 (by decide) (by decide) ?_
      refine jj_iconst (v := 0) C dL_law_477 (by decide) ?_
      exfalso; have z0 := jc_nlt (a := (xs 1).toInt) (b := (0)) c_51 rfl (by decide); have z1 := jc_nle (a := (1)) (b := (xs 1).toInt) c_52 (by decide) rfl; have z2 := jc_lt (a := (xs 2).toInt) (b := (1)) c_53 rfl (by decide); have z3 := jc_ltL (a := (xs 1).toInt) (b := (0)) c_118 (Int32.toInt_toInt64 _) (by decide); omega
    · refine jj_apd rfl ?_
      refine jj_istore C dL_law_466 (by decide) rfl ?_
      refine jj_aload_n C dL_law_468 rfl ?_
      refine jq_callV (rest := []) C (ct_X11_thrown_2 hl D cA ak q_28 q_31 q_32 q_33 q_34 q_35 q_36 q_37 q_38 q_39 q_40 q_41 q_42) [24] [0, 1, 2, 3, 4, 5, 6, 7, 8, 9, 10, 11, 12, 13, 14, 15, 16, 17, 18, 19, 20, 21, 22, 23] rfl rfl (by decide) (by decide) (by decide) 0 rfl rfl rfl jw_993 jw_994 jw_995 jw_224 jw_992 jn_X11_thrown rfl (jj_le rfl) (jj_le rfl) (jj_le rfl) (jj_le rfl) (jj_le rfl) dL_law_469 rfl (fun _ _ hX => hX.elim) (fun w1 r O_136 => ?_)
      obtain ⟨rfl, rfl⟩ := O_136
      refine jj_apd rfl ?_
      refine jj_iload C dL_law_472 rfl ?_
      refine jj_icmp_eqF (tgt := 479) C dL_law_474 (by decide) (by decide) ?_
      refine jj_iconst (v := 0) C dL_law_477 (by decide) ?_
      exfalso; have z0 := jc_nlt (a := (xs 1).toInt) (b := (0)) c_51 rfl (by decide); have z1 := jc_nle (a := (1)) (b := (xs 1).toInt) c_52 (by decide) rfl; have z2 := jc_lt (a := (xs 2).toInt) (b := (1)) c_53 rfl (by decide); have z3 := jc_nltL (a := (xs 1).toInt) (b := (0)) c_119 (Int32.toInt_toInt64 _) (by decide); have z4 := jc_ltL (a := (0)) (b := (xs 1).toInt) c_120 (by decide) (Int32.toInt_toInt64 _); omega
    · refine jj_apd rfl ?_
      refine jj_istore C dL_law_466 (by decide) rfl ?_
      refine jj_aload_n C dL_law_468 rfl ?_
      refine jq_callV (rest := []) C (ct_X11_thrown_4 hl D cA ak q_28 q_31 q_32 q_33 q_34 q_35 q_36 q_37 q_38 q_39 q_40 q_41 q_42) [24] [0, 1, 2, 3, 4, 5, 6, 7, 8, 9, 10, 11, 12, 13, 14, 15, 16, 17, 18, 19, 20, 21, 22, 23] rfl rfl (by decide) (by decide) (by decide) 0 rfl rfl rfl jw_993 jw_994 jw_995 jw_224 jw_992 jn_X11_thrown rfl (jj_le rfl) (jj_le rfl) (jj_le rfl) (jj_le rfl) (jj_le rfl) dL_law_469 rfl (fun _ _ hX => hX.elim) (fun w1 r O_138 => ?_)
      obtain ⟨rfl, rfl⟩ := O_138
      refine jj_apd rfl ?_
      refine jj_iload C dL_law_472 rfl ?_
      refine jj_icmp_eqT (tgt := 479) C dL_law_474 (by decide) (by decide) ?_
      refine jj_iload C dL_law_479 rfl ?_
      refine jj_if_neT (tgt := 496) C dL_law_481 (by decide) (by decide) ?_
      refine jj_goto (tgt := 2259) C dL_law_496 (by decide) ?_
      exact jj_loc [7, 2] rfl (jj_drop [] rfl (by decide) (jj_widen (k := 600006) (n := 7302072) (jj_le rfl) (jj_le rfl) hend))
    · refine jj_apd rfl ?_
      refine jj_istore C dL_law_466 (by decide) rfl ?_
      refine jj_aload_n C dL_law_468 rfl ?_
      refine jq_callV (rest := []) C (ct_X11_thrown_4 hl D cA ak q_28 q_31 q_32 q_33 q_34 q_35 q_36 q_37 q_38 q_39 q_40 q_41 q_42) [24] [0, 1, 2, 3, 4, 5, 6, 7, 8, 9, 10, 11, 12, 13, 14, 15, 16, 17, 18, 19, 20, 21, 22, 23] rfl rfl (by decide) (by decide) (by decide) 0 rfl rfl rfl jw_993 jw_994 jw_995 jw_224 jw_992 jn_X11_thrown rfl (jj_le rfl) (jj_le rfl) (jj_le rfl) (jj_le rfl) (jj_le rfl) dL_law_469 rfl (fun _ _ hX => hX.elim) (fun w1 r O_140 => ?_)
      obtain ⟨rfl, rfl⟩ := O_140
      refine jj_apd rfl ?_
      refine jj_iload C dL_law_472 rfl ?_
      refine jj_icmp_eqT (tgt := 479) C dL_law_474 (by decide) (by decide) ?_
      refine jj_iload C dL_law_479 rfl ?_
      refine jj_if_neT (tgt := 496) C dL_law_481 (by decide) (by decide) ?_
      refine jj_goto (tgt := 2259) C dL_law_496 (by decide) ?_
      exact jj_loc [7, 2] rfl (jj_drop [] rfl (by decide) (jj_widen (k := 600006) (n := 7302072) (jj_le rfl) (jj_le rfl) hend))
    · refine jj_apd rfl ?_
      refine jj_istore C dL_law_466 (by decide) rfl ?_
      refine jj_aload_n C dL_law_468 rfl ?_
      refine jq_callV (rest := []) C (ct_X11_thrown_5 hl D cA ak q_28 q_31 q_32 q_33 q_34 q_35 q_36 q_37 q_38 q_39 q_40 q_41 q_42) [23] [0, 1, 2, 3, 4, 5, 6, 7, 8, 9, 10, 11, 12, 13, 14, 15, 16, 17, 18, 19, 20, 21, 22, 24] rfl rfl (by decide) (by decide) (by decide) 0 rfl rfl rfl jw_993 jw_994 jw_995 jw_224 jw_992 jn_X11_thrown rfl (jj_le rfl) (jj_le rfl) (jj_le rfl) (jj_le rfl) (jj_le rfl) dL_law_469 rfl (fun _ _ hX => hX.elim) (fun w1 r O_142 => ?_)
      obtain ⟨rfl, rfl⟩ := O_142
      refine jj_apd rfl ?_
      refine jj_iload C dL_law_472 rfl ?_
      refine jj_icmp_eqF (tgt := 479) C dL_law_474 (by decide) (by decide) ?_
      refine jj_iconst (v := 0) C dL_law_477 (by decide) ?_
      exfalso; have z0 := jc_nlt (a := (xs 1).toInt) (b := (0)) c_51 rfl (by decide); have z1 := jc_nle (a := (1)) (b := (xs 1).toInt) c_52 (by decide) rfl; have z2 := jc_lt (a := (xs 2).toInt) (b := (1)) c_53 rfl (by decide); have z3 := jc_nltL (a := (xs 1).toInt) (b := (0)) c_129 (Int32.toInt_toInt64 _) (by decide); have z4 := jc_nltL (a := (0)) (b := (xs 1).toInt) c_130 (by decide) (Int32.toInt_toInt64 _); have z5 := jc_nltL (a := (xs 2).toInt) (b := (1)) c_131 (Int32.toInt_toInt64 _) (by decide); have z6 := jc_nltL (a := (9999999)) (b := (xs 2).toInt) c_132 (by decide) (Int32.toInt_toInt64 _); omega
  · refine jj_apd rfl ?_
    refine jj_istore C dL_law_448 (by decide) rfl ?_
    refine jj_aload_n C dL_law_450 rfl ?_
    refine jj_aload_n C dL_law_451 rfl ?_
    refine jj_iload C dL_law_452 rfl ?_
    refine jj_iconst (v := 1) C dL_law_454 (by decide) ?_
    refine jj_iadd (v := 1) C dL_law_455 (by decide) ?_
    refine jj_xld (v := xs 1) C hX hbl hbA (vp_in_iff.mpr (by decide)) rfl dL_law_456 ?_
    refine jj_aload_n C dL_law_457 rfl ?_
    refine jj_iload C dL_law_458 rfl ?_
    refine jj_iconst (v := 2) C dL_law_460 (by decide) ?_
    refine jj_iadd (v := 2) C dL_law_461 (by decide) ?_
    refine jj_xld (v := xs 2) C hX hbl hbA (vp_in_iff.mpr (by decide)) rfl dL_law_462 ?_
    refine jq_callV (rest := []) C (ct_X11_subscribe_1 hl D cA ak q_28 q_31 q_32 q_36 q_33 q_34 q_35 q_37 q_38 q_39 q_40 q_41 q_42 (xs 1) (xs 2)) [10, 22, 11, 15] [0, 1, 2, 3, 4, 5, 6, 7, 8, 9, 12, 13, 14, 16, 17, 18, 19, 20, 21, 23, 24] rfl rfl (by decide) (by decide) (by decide) 0 rfl rfl rfl jw_1043 jw_1044 jw_1045 jw_224 jw_350 jn_X11_subscribe rfl (jj_le rfl) (jj_le rfl) (jj_le rfl) (jj_le rfl) (jj_le rfl) dL_law_463 rfl (fun _ _ hX => hX.elim) (fun w1 r O_144 => ?_)
    rcases O_144 with ⟨c_145, rfl, rfl⟩ | ⟨c_146, c_147, rfl, rfl⟩ | ⟨c_148, c_149, c_150, rfl, rfl⟩ | ⟨c_151, c_152, c_153, c_154, rfl, rfl⟩ | ⟨f_155, c_156, c_157, c_158, c_159, rfl, rfl⟩
    · refine jj_apd rfl ?_
      refine jj_istore C dL_law_466 (by decide) rfl ?_
      refine jj_aload_n C dL_law_468 rfl ?_
      refine jq_callV (rest := []) C (ct_X11_thrown_2 hl D cA ak q_28 q_31 q_32 q_33 q_34 q_35 q_36 q_37 q_38 q_39 q_40 q_41 q_42) [24] [0, 1, 2, 3, 4, 5, 6, 7, 8, 9, 10, 11, 12, 13, 14, 15, 16, 17, 18, 19, 20, 21, 22, 23] rfl rfl (by decide) (by decide) (by decide) 0 rfl rfl rfl jw_993 jw_994 jw_995 jw_224 jw_992 jn_X11_thrown rfl (jj_le rfl) (jj_le rfl) (jj_le rfl) (jj_le rfl) (jj_le rfl) dL_law_469 rfl (fun _ _ hX => hX.elim) (fun w1 r O_161 => ?_)
      obtain ⟨rfl, rfl⟩ := O_161
      refine jj_apd rfl ?_
      refine jj_iload C dL_law_472 rfl ?_
      refine jj_icmp_eqF (tgt := 479) C dL_law_474 (by decide) (by decide) ?_
      refine jj_iconst (v := 0) C dL_law_477 (by decide) ?_
      exfalso; have z0 := jc_nlt (a := (xs 1).toInt) (b := (0)) c_54 rfl (by decide); have z1 := jc_nle (a := (1)) (b := (xs 1).toInt) c_55 (by decide) rfl; have z2 := jc_nlt (a := (xs 2).toInt) (b := (1)) c_56 rfl (by decide); have z3 := jc_nle (a := (xs 2).toInt) (b := (9999999)) c_57 rfl (by decide); have z4 := jc_ltL (a := (xs 1).toInt) (b := (0)) c_145 (Int32.toInt_toInt64 _) (by decide); omega
    · refine jj_apd rfl ?_
      refine jj_istore C dL_law_466 (by decide) rfl ?_
      refine jj_aload_n C dL_law_468 rfl ?_
      refine jq_callV (rest := []) C (ct_X11_thrown_2 hl D cA ak q_28 q_31 q_32 q_33 q_34 q_35 q_36 q_37 q_38 q_39 q_40 q_41 q_42) [24] [0, 1, 2, 3, 4, 5, 6, 7, 8, 9, 10, 11, 12, 13, 14, 15, 16, 17, 18, 19, 20, 21, 22, 23] rfl rfl (by decide) (by decide) (by decide) 0 rfl rfl rfl jw_993 jw_994 jw_995 jw_224 jw_992 jn_X11_thrown rfl (jj_le rfl) (jj_le rfl) (jj_le rfl) (jj_le rfl) (jj_le rfl) dL_law_469 rfl (fun _ _ hX => hX.elim) (fun w1 r O_163 => ?_)
      obtain ⟨rfl, rfl⟩ := O_163
      refine jj_apd rfl ?_
      refine jj_iload C dL_law_472 rfl ?_
      refine jj_icmp_eqF (tgt := 479) C dL_law_474 (by decide) (by decide) ?_
      refine jj_iconst (v := 0) C dL_law_477 (by decide) ?_
      exfalso; have z0 := jc_nlt (a := (xs 1).toInt) (b := (0)) c_54 rfl (by decide); have z1 := jc_nle (a := (1)) (b := (xs 1).toInt) c_55 (by decide) rfl; have z2 := jc_nlt (a := (xs 2).toInt) (b := (1)) c_56 rfl (by decide); have z3 := jc_nle (a := (xs 2).toInt) (b := (9999999)) c_57 rfl (by decide); have z4 := jc_nltL (a := (xs 1).toInt) (b := (0)) c_146 (Int32.toInt_toInt64 _) (by decide); have z5 := jc_ltL (a := (0)) (b := (xs 1).toInt) c_147 (by decide) (Int32.toInt_toInt64 _); omega
    · refine jj_apd rfl ?_
      refine jj_istore C dL_law_466 (by decide) rfl ?_
      refine jj_aload_n C dL_law_468 rfl ?_
      refine jq_callV (rest := []) C (ct_X11_thrown_4 hl D cA ak q_28 q_31 q_32 q_33 q_34 q_35 q_36 q_37 q_38 q_39 q_40 q_41 q_42) [24] [0, 1, 2, 3, 4, 5, 6, 7, 8, 9, 10, 11, 12, 13, 14, 15, 16, 17, 18, 19, 20, 21, 22, 23] rfl rfl (by decide) (by decide) (by decide) 0 rfl rfl rfl jw_993 jw_994 jw_995 jw_224 jw_992 jn_X11_thrown rfl (jj_le rfl) (jj_le rfl) (jj_le rfl) (jj_le rfl) (jj_le rfl) dL_law_469 rfl (fun _ _ hX => hX.elim) (fun w1 r O_165 => ?_)
      obtain ⟨rfl, rfl⟩ := O_165
      refine jj_apd rfl ?_
      refine jj_iload C dL_law_472 rfl ?_
      refine jj_icmp_eqT (tgt := 479) C dL_law_474 (by decide) (by decide) ?_
      refine jj_iload C dL_law_479 rfl ?_
      refine jj_if_neT (tgt := 496) C dL_law_481 (by decide) (by decide) ?_
      refine jj_goto (tgt := 2259) C dL_law_496 (by decide) ?_
      exact jj_loc [7, 2] rfl (jj_drop [] rfl (by decide) (jj_widen (k := 600006) (n := 7302072) (jj_le rfl) (jj_le rfl) hend))
    · refine jj_apd rfl ?_
      refine jj_istore C dL_law_466 (by decide) rfl ?_
      refine jj_aload_n C dL_law_468 rfl ?_
      refine jq_callV (rest := []) C (ct_X11_thrown_4 hl D cA ak q_28 q_31 q_32 q_33 q_34 q_35 q_36 q_37 q_38 q_39 q_40 q_41 q_42) [24] [0, 1, 2, 3, 4, 5, 6, 7, 8, 9, 10, 11, 12, 13, 14, 15, 16, 17, 18, 19, 20, 21, 22, 23] rfl rfl (by decide) (by decide) (by decide) 0 rfl rfl rfl jw_993 jw_994 jw_995 jw_224 jw_992 jn_X11_thrown rfl (jj_le rfl) (jj_le rfl) (jj_le rfl) (jj_le rfl) (jj_le rfl) dL_law_469 rfl (fun _ _ hX => hX.elim) (fun w1 r O_167 => ?_)
      obtain ⟨rfl, rfl⟩ := O_167
      refine jj_apd rfl ?_
      refine jj_iload C dL_law_472 rfl ?_
      refine jj_icmp_eqT (tgt := 479) C dL_law_474 (by decide) (by decide) ?_
      refine jj_iload C dL_law_479 rfl ?_
      refine jj_if_neT (tgt := 496) C dL_law_481 (by decide) (by decide) ?_
      refine jj_goto (tgt := 2259) C dL_law_496 (by decide) ?_
      exact jj_loc [7, 2] rfl (jj_drop [] rfl (by decide) (jj_widen (k := 600006) (n := 7302072) (jj_le rfl) (jj_le rfl) hend))
    · refine jj_apd rfl ?_
      refine jj_istore C dL_law_466 (by decide) rfl ?_
      refine jj_aload_n C dL_law_468 rfl ?_
      refine jq_callV (rest := []) C (ct_X11_thrown_5 hl D cA ak q_28 q_31 q_32 q_33 q_34 q_35 q_36 q_37 q_38 q_39 q_40 q_41 q_42) [23] [0, 1, 2, 3, 4, 5, 6, 7, 8, 9, 10, 11, 12, 13, 14, 15, 16, 17, 18, 19, 20, 21, 22, 24] rfl rfl (by decide) (by decide) (by decide) 0 rfl rfl rfl jw_993 jw_994 jw_995 jw_224 jw_992 jn_X11_thrown rfl (jj_le rfl) (jj_le rfl) (jj_le rfl) (jj_le rfl) (jj_le rfl) dL_law_469 rfl (fun _ _ hX => hX.elim) (fun w1 r O_169 => ?_)
      obtain ⟨rfl, rfl⟩ := O_169
      refine jj_apd rfl ?_
      refine jj_iload C dL_law_472 rfl ?_
      refine jj_icmp_eqF (tgt := 479) C dL_law_474 (by decide) (by decide) ?_
      refine jj_iconst (v := 0) C dL_law_477 (by decide) ?_
      exfalso; have z0 := jc_nlt (a := (xs 1).toInt) (b := (0)) c_54 rfl (by decide); have z1 := jc_nle (a := (1)) (b := (xs 1).toInt) c_55 (by decide) rfl; have z2 := jc_nlt (a := (xs 2).toInt) (b := (1)) c_56 rfl (by decide); have z3 := jc_nle (a := (xs 2).toInt) (b := (9999999)) c_57 rfl (by decide); have z4 := jc_nltL (a := (xs 1).toInt) (b := (0)) c_156 (Int32.toInt_toInt64 _) (by decide); have z5 := jc_nltL (a := (0)) (b := (xs 1).toInt) c_157 (by decide) (Int32.toInt_toInt64 _); have z6 := jc_nltL (a := (xs 2).toInt) (b := (1)) c_158 (Int32.toInt_toInt64 _) (by decide); have z7 := jc_nltL (a := (9999999)) (b := (xs 2).toInt) c_159 (by decide) (Int32.toInt_toInt64 _); omega
  · refine jj_apd rfl ?_
    refine jj_istore C dL_law_448 (by decide) rfl ?_
    refine jj_aload_n C dL_law_450 rfl ?_
    refine jj_aload_n C dL_law_451 rfl ?_
    refine jj_iload C dL_law_452 rfl ?_
    refine jj_iconst (v := 1) C dL_law_454 (by decide) ?_
    refine jj_iadd (v := 1) C dL_law_455 (by decide) ?_
    refine jj_xld (v := xs 1) C hX hbl hbA (vp_in_iff.mpr (by decide)) rfl dL_law_456 ?_
    refine jj_aload_n C dL_law_457 rfl ?_
    refine jj_iload C dL_law_458 rfl ?_
    refine jj_iconst (v := 2) C dL_law_460 (by decide) ?_
    refine jj_iadd (v := 2) C dL_law_461 (by decide) ?_
    refine jj_xld (v := xs 2) C hX hbl hbA (vp_in_iff.mpr (by decide)) rfl dL_law_462 ?_
    refine jq_callV (rest := []) C (ct_X11_subscribe_1 hl D cA ak q_28 q_31 q_32 q_36 q_33 q_34 q_35 q_37 q_38 q_39 q_40 q_41 q_42 (xs 1) (xs 2)) [10, 22, 11, 15] [0, 1, 2, 3, 4, 5, 6, 7, 8, 9, 12, 13, 14, 16, 17, 18, 19, 20, 21, 23, 24] rfl rfl (by decide) (by decide) (by decide) 0 rfl rfl rfl jw_1043 jw_1044 jw_1045 jw_224 jw_350 jn_X11_subscribe rfl (jj_le rfl) (jj_le rfl) (jj_le rfl) (jj_le rfl) (jj_le rfl) dL_law_463 rfl (fun _ _ hX => hX.elim) (fun w1 r O_171 => ?_)
    rcases O_171 with ⟨c_172, rfl, rfl⟩ | ⟨c_173, c_174, rfl, rfl⟩ | ⟨c_175, c_176, c_177, rfl, rfl⟩ | ⟨c_178, c_179, c_180, c_181, rfl, rfl⟩ | ⟨f_182, c_183, c_184, c_185, c_186, rfl, rfl⟩
    · refine jj_apd rfl ?_
      refine jj_istore C dL_law_466 (by decide) rfl ?_
      refine jj_aload_n C dL_law_468 rfl ?_
      refine jq_callV (rest := []) C (ct_X11_thrown_2 hl D cA ak q_28 q_31 q_32 q_33 q_34 q_35 q_36 q_37 q_38 q_39 q_40 q_41 q_42) [24] [0, 1, 2, 3, 4, 5, 6, 7, 8, 9, 10, 11, 12, 13, 14, 15, 16, 17, 18, 19, 20, 21, 22, 23] rfl rfl (by decide) (by decide) (by decide) 0 rfl rfl rfl jw_993 jw_994 jw_995 jw_224 jw_992 jn_X11_thrown rfl (jj_le rfl) (jj_le rfl) (jj_le rfl) (jj_le rfl) (jj_le rfl) dL_law_469 rfl (fun _ _ hX => hX.elim) (fun w1 r O_188 => ?_)
      obtain ⟨rfl, rfl⟩ := O_188
      refine jj_apd rfl ?_
      refine jj_iload C dL_law_472 rfl ?_
      refine jj_icmp_eqF (tgt := 479) C dL_law_474 (by decide) (by decide) ?_
      refine jj_iconst (v := 0) C dL_law_477 (by decide) ?_
      exfalso; have z0 := jc_nlt (a := (xs 1).toInt) (b := (0)) c_58 rfl (by decide); have z1 := jc_nle (a := (1)) (b := (xs 1).toInt) c_59 (by decide) rfl; have z2 := jc_nlt (a := (xs 2).toInt) (b := (1)) c_60 rfl (by decide); have z3 := jc_le (a := (xs 2).toInt) (b := (9999999)) c_61 rfl (by decide); have z4 := jc_ltL (a := (xs 1).toInt) (b := (0)) c_172 (Int32.toInt_toInt64 _) (by decide); omega
    · refine jj_apd rfl ?_
      refine jj_istore C dL_law_466 (by decide) rfl ?_
      refine jj_aload_n C dL_law_468 rfl ?_
      refine jq_callV (rest := []) C (ct_X11_thrown_2 hl D cA ak q_28 q_31 q_32 q_33 q_34 q_35 q_36 q_37 q_38 q_39 q_40 q_41 q_42) [24] [0, 1, 2, 3, 4, 5, 6, 7, 8, 9, 10, 11, 12, 13, 14, 15, 16, 17, 18, 19, 20, 21, 22, 23] rfl rfl (by decide) (by decide) (by decide) 0 rfl rfl rfl jw_993 jw_994 jw_995 jw_224 jw_992 jn_X11_thrown rfl (jj_le rfl) (jj_le rfl) (jj_le rfl) (jj_le rfl) (jj_le rfl) dL_law_469 rfl (fun _ _ hX => hX.elim) (fun w1 r O_190 => ?_)
      obtain ⟨rfl, rfl⟩ := O_190
      refine jj_apd rfl ?_
      refine jj_iload C dL_law_472 rfl ?_
      refine jj_icmp_eqF (tgt := 479) C dL_law_474 (by decide) (by decide) ?_
      refine jj_iconst (v := 0) C dL_law_477 (by decide) ?_
      exfalso; have z0 := jc_nlt (a := (xs 1).toInt) (b := (0)) c_58 rfl (by decide); have z1 := jc_nle (a := (1)) (b := (xs 1).toInt) c_59 (by decide) rfl; have z2 := jc_nlt (a := (xs 2).toInt) (b := (1)) c_60 rfl (by decide); have z3 := jc_le (a := (xs 2).toInt) (b := (9999999)) c_61 rfl (by decide); have z4 := jc_nltL (a := (xs 1).toInt) (b := (0)) c_173 (Int32.toInt_toInt64 _) (by decide); have z5 := jc_ltL (a := (0)) (b := (xs 1).toInt) c_174 (by decide) (Int32.toInt_toInt64 _); omega
    · refine jj_apd rfl ?_
      refine jj_istore C dL_law_466 (by decide) rfl ?_
      refine jj_aload_n C dL_law_468 rfl ?_
      refine jq_callV (rest := []) C (ct_X11_thrown_4 hl D cA ak q_28 q_31 q_32 q_33 q_34 q_35 q_36 q_37 q_38 q_39 q_40 q_41 q_42) [24] [0, 1, 2, 3, 4, 5, 6, 7, 8, 9, 10, 11, 12, 13, 14, 15, 16, 17, 18, 19, 20, 21, 22, 23] rfl rfl (by decide) (by decide) (by decide) 0 rfl rfl rfl jw_993 jw_994 jw_995 jw_224 jw_992 jn_X11_thrown rfl (jj_le rfl) (jj_le rfl) (jj_le rfl) (jj_le rfl) (jj_le rfl) dL_law_469 rfl (fun _ _ hX => hX.elim) (fun w1 r O_192 => ?_)
      obtain ⟨rfl, rfl⟩ := O_192
      refine jj_apd rfl ?_
      refine jj_iload C dL_law_472 rfl ?_
      refine jj_icmp_eqF (tgt := 479) C dL_law_474 (by decide) (by decide) ?_
      refine jj_iconst (v := 0) C dL_law_477 (by decide) ?_
      exfalso; have z0 := jc_nlt (a := (xs 1).toInt) (b := (0)) c_58 rfl (by decide); have z1 := jc_nle (a := (1)) (b := (xs 1).toInt) c_59 (by decide) rfl; have z2 := jc_nlt (a := (xs 2).toInt) (b := (1)) c_60 rfl (by decide); have z3 := jc_le (a := (xs 2).toInt) (b := (9999999)) c_61 rfl (by decide); have z4 := jc_nltL (a := (xs 1).toInt) (b := (0)) c_175 (Int32.toInt_toInt64 _) (by decide); have z5 := jc_nltL (a := (0)) (b := (xs 1).toInt) c_176 (by decide) (Int32.toInt_toInt64 _); have z6 := jc_ltL (a := (xs 2).toInt) (b := (1)) c_177 (Int32.toInt_toInt64 _) (by decide); omega
    · refine jj_apd rfl ?_
      refine jj_istore C dL_law_466 (by decide) rfl ?_
      refine jj_aload_n C dL_law_468 rfl ?_
      refine jq_callV (rest := []) C (ct_X11_thrown_4 hl D cA ak q_28 q_31 q_32 q_33 q_34 q_35 q_36 q_37 q_38 q_39 q_40 q_41 q_42) [24] [0, 1, 2, 3, 4, 5, 6, 7, 8, 9, 10, 11, 12, 13, 14, 15, 16, 17, 18, 19, 20, 21, 22, 23] rfl rfl (by decide) (by decide) (by decide) 0 rfl rfl rfl jw_993 jw_994 jw_995 jw_224 jw_992 jn_X11_thrown rfl (jj_le rfl) (jj_le rfl) (jj_le rfl) (jj_le rfl) (jj_le rfl) dL_law_469 rfl (fun _ _ hX => hX.elim) (fun w1 r O_194 => ?_)
      obtain ⟨rfl, rfl⟩ := O_194
      refine jj_apd rfl ?_
      refine jj_iload C dL_law_472 rfl ?_
      refine jj_icmp_eqF (tgt := 479) C dL_law_474 (by decide) (by decide) ?_
      refine jj_iconst (v := 0) C dL_law_477 (by decide) ?_
      exfalso; have z0 := jc_nlt (a := (xs 1).toInt) (b := (0)) c_58 rfl (by decide); have z1 := jc_nle (a := (1)) (b := (xs 1).toInt) c_59 (by decide) rfl; have z2 := jc_nlt (a := (xs 2).toInt) (b := (1)) c_60 rfl (by decide); have z3 := jc_le (a := (xs 2).toInt) (b := (9999999)) c_61 rfl (by decide); have z4 := jc_nltL (a := (xs 1).toInt) (b := (0)) c_178 (Int32.toInt_toInt64 _) (by decide); have z5 := jc_nltL (a := (0)) (b := (xs 1).toInt) c_179 (by decide) (Int32.toInt_toInt64 _); have z6 := jc_nltL (a := (xs 2).toInt) (b := (1)) c_180 (Int32.toInt_toInt64 _) (by decide); have z7 := jc_ltL (a := (9999999)) (b := (xs 2).toInt) c_181 (by decide) (Int32.toInt_toInt64 _); omega
    · refine jj_apd rfl ?_
      refine jj_istore C dL_law_466 (by decide) rfl ?_
      refine jj_aload_n C dL_law_468 rfl ?_
      refine jq_callV (rest := []) C (ct_X11_thrown_5 hl D cA ak q_28 q_31 q_32 q_33 q_34 q_35 q_36 q_37 q_38 q_39 q_40 q_41 q_42) [23] [0, 1, 2, 3, 4, 5, 6, 7, 8, 9, 10, 11, 12, 13, 14, 15, 16, 17, 18, 19, 20, 21, 22, 24] rfl rfl (by decide) (by decide) (by decide) 0 rfl rfl rfl jw_993 jw_994 jw_995 jw_224 jw_992 jn_X11_thrown rfl (jj_le rfl) (jj_le rfl) (jj_le rfl) (jj_le rfl) (jj_le rfl) dL_law_469 rfl (fun _ _ hX => hX.elim) (fun w1 r O_196 => ?_)
      obtain ⟨rfl, rfl⟩ := O_196
      refine jj_apd rfl ?_
      refine jj_iload C dL_law_472 rfl ?_
      refine jj_icmp_eqT (tgt := 479) C dL_law_474 (by decide) (by decide) ?_
      refine jj_iload C dL_law_479 rfl ?_
      refine jj_if_neF (tgt := 496) C dL_law_481 (by decide) (by decide) ?_
      refine jj_aload_n C dL_law_484 rfl ?_
      refine jj_iconst (v := 0) C dL_law_485 (by decide) ?_
      refine jj_lald (v := 0) C 20 rfl (vp_in_iff.mpr (by decide)) rfl dL_law_486 ?_
      refine jj_iload C dL_law_487 rfl ?_
      refine jj_i2l (v := 0) C dL_law_489 (by decide) ?_
      refine jj_lcmp_eqT (tgt := 496) C dL_law_490 dL_law_491 (by decide) (by decide) ?_
      refine jj_goto (tgt := 2259) C dL_law_496 (by decide) ?_
      exact jj_loc [7, 2] rfl (jj_drop [] rfl (by decide) (jj_widen (k := 600006) (n := 7302072) (jj_le rfl) (jj_le rfl) hend))

set_option maxHeartbeats 4000000 in
set_option maxRecDepth 100000 in
theorem law_c6 {p : Program} {l : Launch} {e : Env} {s : State} {m : MethodId} {below : List Frame} {meth : Method} {c : Code} (hl : l.stackTraces = false) {D : va_G} {cA : Nat → ClassId} {ak : (Nat → Nat) × (Nat → Nat)} {A : Nat → Prop} {b : Nat} {xs : Nat → Int32} {Q : State → Prop} (C : jj_C p l s m #[Value.ref b] meth c code 9 R_law ret D cA A ak) (hX : va_X b 6 xs s s.heap) (hbl : b < s.heap.size) (hbA : ¬ A b) (hend : jj_J p l e room_1 s m #[Value.ref b] below meth c 9 A Q (jj_X D A []) 600006 7302072 2259 [(0, .ref b), (5, .int 0)] []) (q_1 q_4 q_5 q_6 q_7 q_8 q_9 q_10 q_11 q_12 q_13 q_14 q_15 q_16 q_17 q_18 q_19 q_20 q_21 q_22 q_23 q_28 q_31 q_32 q_33 q_34 q_35 q_36 q_37 q_38 q_39 q_40 q_41 q_42 q_43 q_44 : Nat) (f_24 : Nat → Option Nat) (f_25 : Nat → Option Nat) (c_26 : f_24 0 = some q_11) (c_27 : f_25 0 = some q_17) : jj_J p l e room_1 s m #[Value.ref b] below meth c 9 A Q (jj_X D A [(q_1, .inr (11, [.ref q_4, .int 0, .int (-1), .ref q_6, .ref q_12, .ref q_18, .ref q_20, .int 0, .int 0, .ref q_21])), (q_4, .inr (10, [.ref q_5, .int 0, .int 0, .int 0, .int 0, .int 0, .int (-1)])), (q_5, .inl (cA 1, 400, .inl (fun _ => 0))), (q_6, .inr (2, [.int 1, .int 0, .int 0, .int 0, .int 100, .int 0, .int 0, .int 0, .int 0, .int 0, .ref q_7, .ref q_8, .ref q_9, .ref q_10])), (q_7, .inl (cA 2, 6, .inr (.inl (fun _ => 0)))), (q_10, .inl (cA 7, 12, .inr (.inr (.inr (.inr f_24))))), (q_11, .inr (7, [.int 0, .int 0, .int 0, .long 0, .long 0])), (q_12, .inr (2, [.int 1, .int 0, .int 0, .int 0, .int 100, .int 0, .int 0, .int 0, .int 0, .int 0, .ref q_13, .ref q_14, .ref q_15, .ref q_16])), (q_13, .inl (cA 2, 6, .inr (.inl (fun _ => 0)))), (q_16, .inl (cA 7, 12, .inr (.inr (.inr (.inr f_25))))), (q_17, .inr (7, [.int 0, .int 0, .int 0, .long 0, .long 0])), (q_18, .inr (3, [.ref q_19, .long 0, .long 0, .long 0, .long 0, .long 0])), (q_20, .inl (cA 5, 10, .inr (.inr (.inr (.inr (fun _ => none)))))), (q_21, .inr (6, [.ref q_22, .int 0, .ref q_23])), (q_22, .inl (cA 0, 1300, .inl (fun _ => 0))), (q_23, .inl (cA 0, 20, .inl (fun _ => 0))), (q_28, .inr (12, [.ref q_31, .ref q_32, .ref q_33, .ref q_34, .ref q_35, .ref q_36, .int 0, .int 0, .long 0, .long 0, .ref q_37, .ref q_38, .ref q_39, .int 0, .int 0, .int 0, .int 0, .int 0, .int (-1), .int 0, .int 0, .ref q_40, .ref q_41, .ref q_42, .int 0])), (q_32, .inl (cA 2, 334, .inr (.inl (fun _ => 0)))), (q_33, .inl (cA 2, 334, .inr (.inl (fun _ => 0)))), (q_34, .inl (cA 2, 334, .inr (.inl (fun _ => 0)))), (q_35, .inl (cA 2, 334, .inr (.inl (fun _ => 0)))), (q_36, .inl (cA 2, 3340, .inr (.inl (fun _ => 0)))), (q_37, .inl (cA 2, 12, .inr (.inl (fun _ => 0)))), (q_38, .inl (cA 3, 12, .inl (fun _ => 0))), (q_39, .inl (cA 0, 400, .inl (fun _ => 0))), (q_40, .inl (cA 2, 6, .inr (.inl (fun _ => 0)))), (q_41, .inl (cA 2, 6, .inr (.inl (fun _ => 0)))), (q_42, .inl (cA 0, 2400, .inl (fun _ => 0))), (q_31, .inl (cA 2, 334, .inr (.inl (vp_updL (vp_updL (fun _ => 0) 0 1) 4 100)))), (q_43, .inl (cA 2, 1, .inr (.inl (fun _ => 0)))), (q_44, .inl (cA 4, 1, .inr (.inr (.inr (.inl (fun _ => 0))))))]) 156 10481 499 [(5, .int 0), (4, .ref q_44), (3, .ref q_43), (2, .ref q_28), (1, .ref q_1), (0, .ref b)] [] := by
  refine jj_aload_n C dL_law_499 rfl ?_
  refine jj_aload_n C dL_law_500 rfl ?_
  refine jj_iload C dL_law_501 rfl ?_
  refine jj_iconst (v := 1) C dL_law_503 (by decide) ?_
  refine jj_iadd (v := 1) C dL_law_504 (by decide) ?_
  refine jj_xld (v := xs 1) C hX hbl hbA (vp_in_iff.mpr (by decide)) rfl dL_law_505 ?_
  refine jj_aload_n C dL_law_506 rfl ?_
  refine jj_iload C dL_law_507 rfl ?_
  refine jj_iconst (v := 2) C dL_law_509 (by decide) ?_
  refine jj_iadd (v := 2) C dL_law_510 (by decide) ?_
  refine jj_xld (v := xs 2) C hX hbl hbA (vp_in_iff.mpr (by decide)) rfl dL_law_511 ?_
  refine jj_aload_n C dL_law_512 rfl ?_
  refine jq_callSW (rest := []) C (ct_L_redeem_1 hl D cA ak q_1 q_43 q_6 q_20 q_7 q_10 q_11 q_4 q_12 q_18 q_21 q_8 q_9 (xs 1) (xs 2) f_24 c_26) [0, 29, 3, 12, 4, 5, 6] [1, 2, 7, 8, 9, 10, 11, 13, 14, 15, 16, 17, 18, 19, 20, 21, 22, 23, 24, 25, 26, 27, 28, 30] rfl rfl (by decide) (by decide) (by decide) jw_1053 jw_1054 jw_985 jw_1052 jn_L_redeem rfl (jj_le rfl) (jj_le rfl) (jj_le rfl) (jj_le rfl) (jj_le rfl) dL_law_513 rfl (fun _ _ hX => hX.elim) (fun w1 r O_47 => ?_)
  rcases O_47 with ⟨c_48, rfl, rfl⟩ | ⟨c_49, c_50, rfl, rfl⟩ | ⟨c_51, c_52, c_53, rfl, rfl⟩ | ⟨c_54, c_55, c_56, c_57, c_58, rfl, rfl⟩ | ⟨c_59, c_60, c_61, c_62, rfl, rfl⟩ | ⟨c_63, c_64, c_65, c_66, c_67, rfl, rfl⟩
  · refine jj_apd rfl ?_
    refine jj_istore C dL_law_516 (by decide) rfl ?_
    refine jj_aload_n C dL_law_518 rfl ?_
    refine jj_aload_n C dL_law_519 rfl ?_
    refine jj_iload C dL_law_520 rfl ?_
    refine jj_iconst (v := 1) C dL_law_522 (by decide) ?_
    refine jj_iadd (v := 1) C dL_law_523 (by decide) ?_
    refine jj_xld (v := xs 1) C hX hbl hbA (vp_in_iff.mpr (by decide)) rfl dL_law_524 ?_
    refine jj_aload_n C dL_law_525 rfl ?_
    refine jj_iload C dL_law_526 rfl ?_
    refine jj_iconst (v := 2) C dL_law_528 (by decide) ?_
    refine jj_iadd (v := 2) C dL_law_529 (by decide) ?_
    refine jj_xld (v := xs 2) C hX hbl hbA (vp_in_iff.mpr (by decide)) rfl dL_law_530 ?_
    refine jq_callV (rest := []) C (ct_X11_redeem_1 hl D cA ak q_28 q_31 q_32 q_36 q_33 q_34 q_35 q_37 q_38 q_39 q_40 q_41 q_42 (xs 1) (xs 2)) [10, 22, 11, 15] [0, 1, 2, 3, 4, 5, 6, 7, 8, 9, 12, 13, 14, 16, 17, 18, 19, 20, 21, 23, 24] rfl rfl (by decide) (by decide) (by decide) 0 rfl rfl rfl jw_1056 jw_1057 jw_1058 jw_224 jw_390 jn_X11_redeem rfl (jj_le rfl) (jj_le rfl) (jj_le rfl) (jj_le rfl) (jj_le rfl) dL_law_531 rfl (fun _ _ hX => hX.elim) (fun w1 r O_69 => ?_)
    rcases O_69 with ⟨c_70, rfl, rfl⟩ | ⟨c_71, c_72, rfl, rfl⟩ | ⟨c_73, c_74, c_75, rfl, rfl⟩ | ⟨c_76, c_77, c_78, c_79, rfl, rfl⟩ | ⟨c_80, c_81, c_82, c_83, c_84, rfl, rfl⟩ | ⟨f_85, c_86, c_87, c_88, c_89, c_90, rfl, rfl⟩
    · refine jj_apd rfl ?_
      refine jj_istore C dL_law_534 (by decide) rfl ?_
      refine jj_aload_n C dL_law_536 rfl ?_
      refine jq_callV (rest := []) C (ct_X11_thrown_2 hl D cA ak q_28 q_31 q_32 q_33 q_34 q_35 q_36 q_37 q_38 q_39 q_40 q_41 q_42) [24] [0, 1, 2, 3, 4, 5, 6, 7, 8, 9, 10, 11, 12, 13, 14, 15, 16, 17, 18, 19, 20, 21, 22, 23] rfl rfl (by decide) (by decide) (by decide) 0 rfl rfl rfl jw_993 jw_994 jw_995 jw_224 jw_992 jn_X11_thrown rfl (jj_le rfl) (jj_le rfl) (jj_le rfl) (jj_le rfl) (jj_le rfl) dL_law_537 rfl (fun _ _ hX => hX.elim) (fun w1 r O_92 => ?_)
      obtain ⟨rfl, rfl⟩ := O_92
      refine jj_apd rfl ?_
      refine jj_iload C dL_law_540 rfl ?_
      refine jj_icmp_eqT (tgt := 547) C dL_law_542 (by decide) (by decide) ?_
      refine jj_iload C dL_law_547 rfl ?_
      refine jj_if_neT (tgt := 564) C dL_law_549 (by decide) (by decide) ?_
      refine jj_goto (tgt := 2259) C dL_law_564 (by decide) ?_
      exact jj_loc [7, 2] rfl (jj_drop [] rfl (by decide) (jj_widen (k := 600006) (n := 7302072) (jj_le rfl) (jj_le rfl) hend))
    · refine jj_apd rfl ?_
      refine jj_istore C dL_law_534 (by decide) rfl ?_
      refine jj_aload_n C dL_law_536 rfl ?_
      refine jq_callV (rest := []) C (ct_X11_thrown_2 hl D cA ak q_28 q_31 q_32 q_33 q_34 q_35 q_36 q_37 q_38 q_39 q_40 q_41 q_42) [24] [0, 1, 2, 3, 4, 5, 6, 7, 8, 9, 10, 11, 12, 13, 14, 15, 16, 17, 18, 19, 20, 21, 22, 23] rfl rfl (by decide) (by decide) (by decide) 0 rfl rfl rfl jw_993 jw_994 jw_995 jw_224 jw_992 jn_X11_thrown rfl (jj_le rfl) (jj_le rfl) (jj_le rfl) (jj_le rfl) (jj_le rfl) dL_law_537 rfl (fun _ _ hX => hX.elim) (fun w1 r O_94 => ?_)
      obtain ⟨rfl, rfl⟩ := O_94
      refine jj_apd rfl ?_
      refine jj_iload C dL_law_540 rfl ?_
      refine jj_icmp_eqT (tgt := 547) C dL_law_542 (by decide) (by decide) ?_
      refine jj_iload C dL_law_547 rfl ?_
      refine jj_if_neT (tgt := 564) C dL_law_549 (by decide) (by decide) ?_
      refine jj_goto (tgt := 2259) C dL_law_564 (by decide) ?_
      exact jj_loc [7, 2] rfl (jj_drop [] rfl (by decide) (jj_widen (k := 600006) (n := 7302072) (jj_le rfl) (jj_le rfl) hend))
    · refine jj_apd rfl ?_
      refine jj_istore C dL_law_534 (by decide) rfl ?_
      refine jj_aload_n C dL_law_536 rfl ?_
      refine jq_callV (rest := []) C (ct_X11_thrown_4 hl D cA ak q_28 q_31 q_32 q_33 q_34 q_35 q_36 q_37 q_38 q_39 q_40 q_41 q_42) [24] [0, 1, 2, 3, 4, 5, 6, 7, 8, 9, 10, 11, 12, 13, 14, 15, 16, 17, 18, 19, 20, 21, 22, 23] rfl rfl (by decide) (by decide) (by decide) 0 rfl rfl rfl jw_993 jw_994 jw_995 jw_224 jw_992 jn_X11_thrown rfl (jj_le rfl) (jj_le rfl) (jj_le rfl) (jj_le rfl) (jj_le rfl) dL_law_537 rfl (fun _ _ hX => hX.elim) (fun w1 r O_96 => ?_)
      obtain ⟨rfl, rfl⟩ := O_96
      refine jj_apd rfl ?_
      refine jj_iload C dL_law_540 rfl ?_
      refine jj_icmp_eqF (tgt := 547) C dL_law_542 (by decide) (by decide) ?_
      refine jj_iconst (v := 0) C dL_law_545 (by decide) ?_
      exfalso; have z0 := jc_lt (a := (xs 1).toInt) (b := (0)) c_48 rfl (by decide); have z1 := jc_nltL (a := (xs 1).toInt) (b := (0)) c_73 (Int32.toInt_toInt64 _) (by decide); have z2 := jc_nltL (a := (0)) (b := (xs 1).toInt) c_74 (by decide) (Int32.toInt_toInt64 _); have z3 := jc_ltL (a := (xs 2).toInt) (b := (1)) c_75 (Int32.toInt_toInt64 _) (by decide); omega
    · refine jj_apd rfl ?_
      refine jj_istore C dL_law_534 (by decide) rfl ?_
      refine jj_aload_n C dL_law_536 rfl ?_
      refine jq_callV (rest := []) C (ct_X11_thrown_4 hl D cA ak q_28 q_31 q_32 q_33 q_34 q_35 q_36 q_37 q_38 q_39 q_40 q_41 q_42) [24] [0, 1, 2, 3, 4, 5, 6, 7, 8, 9, 10, 11, 12, 13, 14, 15, 16, 17, 18, 19, 20, 21, 22, 23] rfl rfl (by decide) (by decide) (by decide) 0 rfl rfl rfl jw_993 jw_994 jw_995 jw_224 jw_992 jn_X11_thrown rfl (jj_le rfl) (jj_le rfl) (jj_le rfl) (jj_le rfl) (jj_le rfl) dL_law_537 rfl (fun _ _ hX => hX.elim) (fun w1 r O_98 => ?_)
      obtain ⟨rfl, rfl⟩ := O_98
      refine jj_apd rfl ?_
      refine jj_iload C dL_law_540 rfl ?_
      refine jj_icmp_eqF (tgt := 547) C dL_law_542 (by decide) (by decide) ?_
      refine jj_iconst (v := 0) C dL_law_545 (by decide) ?_
      exfalso; have z0 := jc_lt (a := (xs 1).toInt) (b := (0)) c_48 rfl (by decide); have z1 := jc_nltL (a := (xs 1).toInt) (b := (0)) c_76 (Int32.toInt_toInt64 _) (by decide); have z2 := jc_nltL (a := (0)) (b := (xs 1).toInt) c_77 (by decide) (Int32.toInt_toInt64 _); have z3 := jc_nltL (a := (xs 2).toInt) (b := (1)) c_78 (Int32.toInt_toInt64 _) (by decide); have z4 := jc_ltL (a := (99999999)) (b := (xs 2).toInt) c_79 (by decide) (Int32.toInt_toInt64 _); omega
    · refine jj_apd rfl ?_
      refine jj_istore C dL_law_534 (by decide) rfl ?_
      refine jj_aload_n C dL_law_536 rfl ?_
      refine jq_callV (rest := []) C (ct_X11_thrown_6 hl D cA ak q_28 q_31 q_32 q_33 q_34 q_35 q_36 q_37 q_38 q_39 q_40 q_41 q_42) [24] [0, 1, 2, 3, 4, 5, 6, 7, 8, 9, 10, 11, 12, 13, 14, 15, 16, 17, 18, 19, 20, 21, 22, 23] rfl rfl (by decide) (by decide) (by decide) 0 rfl rfl rfl jw_993 jw_994 jw_995 jw_224 jw_992 jn_X11_thrown rfl (jj_le rfl) (jj_le rfl) (jj_le rfl) (jj_le rfl) (jj_le rfl) dL_law_537 rfl (fun _ _ hX => hX.elim) (fun w1 r O_100 => ?_)
      obtain ⟨rfl, rfl⟩ := O_100
      refine jj_apd rfl ?_
      refine jj_iload C dL_law_540 rfl ?_
      refine jj_icmp_eqF (tgt := 547) C dL_law_542 (by decide) (by decide) ?_
      refine jj_iconst (v := 0) C dL_law_545 (by decide) ?_
      exfalso; have z0 := jc_lt (a := (xs 1).toInt) (b := (0)) c_48 rfl (by decide); have z1 := jc_nltL (a := (xs 1).toInt) (b := (0)) c_80 (Int32.toInt_toInt64 _) (by decide); have z2 := jc_nltL (a := (0)) (b := (xs 1).toInt) c_81 (by decide) (Int32.toInt_toInt64 _); have z3 := jc_nltL (a := (xs 2).toInt) (b := (1)) c_82 (Int32.toInt_toInt64 _) (by decide); have z4 := jc_nltL (a := (99999999)) (b := (xs 2).toInt) c_83 (by decide) (Int32.toInt_toInt64 _); have z5 := jc_ltL (a := (0)) (b := (xs 2).toInt) c_84 (by decide) (jc_z _); omega
    · refine jj_apd rfl ?_
      refine jj_istore C dL_law_534 (by decide) rfl ?_
      refine jj_aload_n C dL_law_536 rfl ?_
      refine jq_callV (rest := []) C (ct_X11_thrown_5 hl D cA ak q_28 q_31 q_32 q_33 q_34 q_35 q_36 q_37 q_38 q_39 q_40 q_41 q_42) [23] [0, 1, 2, 3, 4, 5, 6, 7, 8, 9, 10, 11, 12, 13, 14, 15, 16, 17, 18, 19, 20, 21, 22, 24] rfl rfl (by decide) (by decide) (by decide) 0 rfl rfl rfl jw_993 jw_994 jw_995 jw_224 jw_992 jn_X11_thrown rfl (jj_le rfl) (jj_le rfl) (jj_le rfl) (jj_le rfl) (jj_le rfl) dL_law_537 rfl (fun _ _ hX => hX.elim) (fun w1 r O_102 => ?_)
      obtain ⟨rfl, rfl⟩ := O_102
      refine jj_apd rfl ?_
      refine jj_iload C dL_law_540 rfl ?_
      refine jj_icmp_eqF (tgt := 547) C dL_law_542 (by decide) (by decide) ?_
      refine jj_iconst (v := 0) C dL_law_545 (by decide) ?_
      exfalso; have z0 := jc_lt (a := (xs 1).toInt) (b := (0)) c_48 rfl (by decide); have z1 := jc_nltL (a := (xs 1).toInt) (b := (0)) c_86 (Int32.toInt_toInt64 _) (by decide); have z2 := jc_nltL (a := (0)) (b := (xs 1).toInt) c_87 (by decide) (Int32.toInt_toInt64 _); have z3 := jc_nltL (a := (xs 2).toInt) (b := (1)) c_88 (Int32.toInt_toInt64 _) (by decide); have z4 := jc_nltL (a := (99999999)) (b := (xs 2).toInt) c_89 (by decide) (Int32.toInt_toInt64 _); have z5 := jc_nltL (a := (0)) (b := (xs 2).toInt) c_90 (by decide) (jc_z _); omega
  · refine jj_apd rfl ?_
    refine jj_istore C dL_law_516 (by decide) rfl ?_
    refine jj_aload_n C dL_law_518 rfl ?_
    refine jj_aload_n C dL_law_519 rfl ?_
    refine jj_iload C dL_law_520 rfl ?_
    refine jj_iconst (v := 1) C dL_law_522 (by decide) ?_
    refine jj_iadd (v := 1) C dL_law_523 (by decide) ?_
    refine jj_xld (v := xs 1) C hX hbl hbA (vp_in_iff.mpr (by decide)) rfl dL_law_524 ?_
    refine jj_aload_n C dL_law_525 rfl ?_
    refine jj_iload C dL_law_526 rfl ?_
    refine jj_iconst (v := 2) C dL_law_528 (by decide) ?_
    refine jj_iadd (v := 2) C dL_law_529 (by decide) ?_
    refine jj_xld (v := xs 2) C hX hbl hbA (vp_in_iff.mpr (by decide)) rfl dL_law_530 ?_
    refine jq_callV (rest := []) C (ct_X11_redeem_1 hl D cA ak q_28 q_31 q_32 q_36 q_33 q_34 q_35 q_37 q_38 q_39 q_40 q_41 q_42 (xs 1) (xs 2)) [10, 22, 11, 15] [0, 1, 2, 3, 4, 5, 6, 7, 8, 9, 12, 13, 14, 16, 17, 18, 19, 20, 21, 23, 24] rfl rfl (by decide) (by decide) (by decide) 0 rfl rfl rfl jw_1056 jw_1057 jw_1058 jw_224 jw_390 jn_X11_redeem rfl (jj_le rfl) (jj_le rfl) (jj_le rfl) (jj_le rfl) (jj_le rfl) dL_law_531 rfl (fun _ _ hX => hX.elim) (fun w1 r O_104 => ?_)
    rcases O_104 with ⟨c_105, rfl, rfl⟩ | ⟨c_106, c_107, rfl, rfl⟩ | ⟨c_108, c_109, c_110, rfl, rfl⟩ | ⟨c_111, c_112, c_113, c_114, rfl, rfl⟩ | ⟨c_115, c_116, c_117, c_118, c_119, rfl, rfl⟩ | ⟨f_120, c_121, c_122, c_123, c_124, c_125, rfl, rfl⟩
    · refine jj_apd rfl ?_
      refine jj_istore C dL_law_534 (by decide) rfl ?_
      refine jj_aload_n C dL_law_536 rfl ?_
      refine jq_callV (rest := []) C (ct_X11_thrown_2 hl D cA ak q_28 q_31 q_32 q_33 q_34 q_35 q_36 q_37 q_38 q_39 q_40 q_41 q_42) [24] [0, 1, 2, 3, 4, 5, 6, 7, 8, 9, 10, 11, 12, 13, 14, 15, 16, 17, 18, 19, 20, 21, 22, 23] rfl rfl (by decide) (by decide) (by decide) 0 rfl rfl rfl jw_993 jw_994 jw_995 jw_224 jw_992 jn_X11_thrown rfl (jj_le rfl) (jj_le rfl) (jj_le rfl) (jj_le rfl) (jj_le rfl) dL_law_537 rfl (fun _ _ hX => hX.elim) (fun w1 r O_127 => ?_)
      obtain ⟨rfl, rfl⟩ := O_127
      refine jj_apd rfl ?_
      refine jj_iload C dL_law_540 rfl ?_
      refine jj_icmp_eqT (tgt := 547) C dL_law_542 (by decide) (by decide) ?_
      refine jj_iload C dL_law_547 rfl ?_
      refine jj_if_neT (tgt := 564) C dL_law_549 (by decide) (by decide) ?_
      refine jj_goto (tgt := 2259) C dL_law_564 (by decide) ?_
      exact jj_loc [7, 2] rfl (jj_drop [] rfl (by decide) (jj_widen (k := 600006) (n := 7302072) (jj_le rfl) (jj_le rfl) hend))
    · refine jj_apd rfl ?_
      refine jj_istore C dL_law_534 (by decide) rfl ?_
      refine jj_aload_n C dL_law_536 rfl ?_
      refine jq_callV (rest := []) C (ct_X11_thrown_2 hl D cA ak q_28 q_31 q_32 q_33 q_34 q_35 q_36 q_37 q_38 q_39 q_40 q_41 q_42) [24] [0, 1, 2, 3, 4, 5, 6, 7, 8, 9, 10, 11, 12, 13, 14, 15, 16, 17, 18, 19, 20, 21, 22, 23] rfl rfl (by decide) (by decide) (by decide) 0 rfl rfl rfl jw_993 jw_994 jw_995 jw_224 jw_992 jn_X11_thrown rfl (jj_le rfl) (jj_le rfl) (jj_le rfl) (jj_le rfl) (jj_le rfl) dL_law_537 rfl (fun _ _ hX => hX.elim) (fun w1 r O_129 => ?_)
      obtain ⟨rfl, rfl⟩ := O_129
      refine jj_apd rfl ?_
      refine jj_iload C dL_law_540 rfl ?_
      refine jj_icmp_eqT (tgt := 547) C dL_law_542 (by decide) (by decide) ?_
      refine jj_iload C dL_law_547 rfl ?_
      refine jj_if_neT (tgt := 564) C dL_law_549 (by decide) (by decide) ?_
      refine jj_goto (tgt := 2259) C dL_law_564 (by decide) ?_
      exact jj_loc [7, 2] rfl (jj_drop [] rfl (by decide) (jj_widen (k := 600006) (n := 7302072) (jj_le rfl) (jj_le rfl) hend))
    · refine jj_apd rfl ?_
      refine jj_istore C dL_law_534 (by decide) rfl ?_
      refine jj_aload_n C dL_law_536 rfl ?_
      refine jq_callV (rest := []) C (ct_X11_thrown_4 hl D cA ak q_28 q_31 q_32 q_33 q_34 q_35 q_36 q_37 q_38 q_39 q_40 q_41 q_42) [24] [0, 1, 2, 3, 4, 5, 6, 7, 8, 9, 10, 11, 12, 13, 14, 15, 16, 17, 18, 19, 20, 21, 22, 23] rfl rfl (by decide) (by decide) (by decide) 0 rfl rfl rfl jw_993 jw_994 jw_995 jw_224 jw_992 jn_X11_thrown rfl (jj_le rfl) (jj_le rfl) (jj_le rfl) (jj_le rfl) (jj_le rfl) dL_law_537 rfl (fun _ _ hX => hX.elim) (fun w1 r O_131 => ?_)
      obtain ⟨rfl, rfl⟩ := O_131
      refine jj_apd rfl ?_
      refine jj_iload C dL_law_540 rfl ?_
      refine jj_icmp_eqF (tgt := 547) C dL_law_542 (by decide) (by decide) ?_
      refine jj_iconst (v := 0) C dL_law_545 (by decide) ?_
      exfalso; have z0 := jc_nlt (a := (xs 1).toInt) (b := (0)) c_49 rfl (by decide); have z1 := jc_le (a := (1)) (b := (xs 1).toInt) c_50 (by decide) rfl; have z2 := jc_nltL (a := (xs 1).toInt) (b := (0)) c_108 (Int32.toInt_toInt64 _) (by decide); have z3 := jc_nltL (a := (0)) (b := (xs 1).toInt) c_109 (by decide) (Int32.toInt_toInt64 _); have z4 := jc_ltL (a := (xs 2).toInt) (b := (1)) c_110 (Int32.toInt_toInt64 _) (by decide); omega
    · refine jj_apd rfl ?_
      refine jj_istore C dL_law_534 (by decide) rfl ?_
      refine jj_aload_n C dL_law_536 rfl ?_
      refine jq_callV (rest := []) C (ct_X11_thrown_4 hl D cA ak q_28 q_31 q_32 q_33 q_34 q_35 q_36 q_37 q_38 q_39 q_40 q_41 q_42) [24] [0, 1, 2, 3, 4, 5, 6, 7, 8, 9, 10, 11, 12, 13, 14, 15, 16, 17, 18, 19, 20, 21, 22, 23] rfl rfl (by decide) (by decide) (by decide) 0 rfl rfl rfl jw_993 jw_994 jw_995 jw_224 jw_992 jn_X11_thrown rfl (jj_le rfl) (jj_le rfl) (jj_le rfl) (jj_le rfl) (jj_le rfl) dL_law_537 rfl (fun _ _ hX => hX.elim) (fun w1 r O_133 => ?_)
      obtain ⟨rfl, rfl⟩ := O_133
      refine jj_apd rfl ?_
      refine jj_iload C dL_law_540 rfl ?_
      refine jj_icmp_eqF (tgt := 547) C dL_law_542 (by decide) (by decide) ?_
      refine jj_iconst (v := 0) C dL_law_545 (by decide) ?_
      exfalso; have z0 := jc_nlt (a := (xs 1).toInt) (b := (0)) c_49 rfl (by decide); have z1 := jc_le (a := (1)) (b := (xs 1).toInt) c_50 (by decide) rfl; have z2 := jc_nltL (a := (xs 1).toInt) (b := (0)) c_111 (Int32.toInt_toInt64 _) (by decide); have z3 := jc_nltL (a := (0)) (b := (xs 1).toInt) c_112 (by decide) (Int32.toInt_toInt64 _); have z4 := jc_nltL (a := (xs 2).toInt) (b := (1)) c_113 (Int32.toInt_toInt64 _) (by decide); have z5 := jc_ltL (a := (99999999)) (b := (xs 2).toInt) c_114 (by decide) (Int32.toInt_toInt64 _); omega
    · refine jj_apd rfl ?_
      refine jj_istore C dL_law_534 (by decide) rfl ?_
      refine jj_aload_n C dL_law_536 rfl ?_
      refine jq_callV (rest := []) C (ct_X11_thrown_6 hl D cA ak q_28 q_31 q_32 q_33 q_34 q_35 q_36 q_37 q_38 q_39 q_40 q_41 q_42) [24] [0, 1, 2, 3, 4, 5, 6, 7, 8, 9, 10, 11, 12, 13, 14, 15, 16, 17, 18, 19, 20, 21, 22, 23] rfl rfl (by decide) (by decide) (by decide) 0 rfl rfl rfl jw_993 jw_994 jw_995 jw_224 jw_992 jn_X11_thrown rfl (jj_le rfl) (jj_le rfl) (jj_le rfl) (jj_le rfl) (jj_le rfl) dL_law_537 rfl (fun _ _ hX => hX.elim) (fun w1 r O_135 => ?_)
      obtain ⟨rfl, rfl⟩ := O_135
      refine jj_apd rfl ?_
      refine jj_iload C dL_law_540 rfl ?_
      refine jj_icmp_eqF (tgt := 547) C dL_law_542 (by decide) (by decide) ?_
      refine jj_iconst (v := 0) C dL_law_545 (by decide) ?_
      exfalso; have z0 := jc_nlt (a := (xs 1).toInt) (b := (0)) c_49 rfl (by decide); have z1 := jc_le (a := (1)) (b := (xs 1).toInt) c_50 (by decide) rfl; have z2 := jc_nltL (a := (xs 1).toInt) (b := (0)) c_115 (Int32.toInt_toInt64 _) (by decide); have z3 := jc_nltL (a := (0)) (b := (xs 1).toInt) c_116 (by decide) (Int32.toInt_toInt64 _); have z4 := jc_nltL (a := (xs 2).toInt) (b := (1)) c_117 (Int32.toInt_toInt64 _) (by decide); have z5 := jc_nltL (a := (99999999)) (b := (xs 2).toInt) c_118 (by decide) (Int32.toInt_toInt64 _); have z6 := jc_ltL (a := (0)) (b := (xs 2).toInt) c_119 (by decide) (jc_z _); omega
    · refine jj_apd rfl ?_
      refine jj_istore C dL_law_534 (by decide) rfl ?_
      refine jj_aload_n C dL_law_536 rfl ?_
      refine jq_callV (rest := []) C (ct_X11_thrown_5 hl D cA ak q_28 q_31 q_32 q_33 q_34 q_35 q_36 q_37 q_38 q_39 q_40 q_41 q_42) [23] [0, 1, 2, 3, 4, 5, 6, 7, 8, 9, 10, 11, 12, 13, 14, 15, 16, 17, 18, 19, 20, 21, 22, 24] rfl rfl (by decide) (by decide) (by decide) 0 rfl rfl rfl jw_993 jw_994 jw_995 jw_224 jw_992 jn_X11_thrown rfl (jj_le rfl) (jj_le rfl) (jj_le rfl) (jj_le rfl) (jj_le rfl) dL_law_537 rfl (fun _ _ hX => hX.elim) (fun w1 r O_137 => ?_)
      obtain ⟨rfl, rfl⟩ := O_137
      refine jj_apd rfl ?_
      refine jj_iload C dL_law_540 rfl ?_
      refine jj_icmp_eqF (tgt := 547) C dL_law_542 (by decide) (by decide) ?_
      refine jj_iconst (v := 0) C dL_law_545 (by decide) ?_
      exfalso; have z0 := jc_nlt (a := (xs 1).toInt) (b := (0)) c_49 rfl (by decide); have z1 := jc_le (a := (1)) (b := (xs 1).toInt) c_50 (by decide) rfl; have z2 := jc_nltL (a := (xs 1).toInt) (b := (0)) c_121 (Int32.toInt_toInt64 _) (by decide); have z3 := jc_nltL (a := (0)) (b := (xs 1).toInt) c_122 (by decide) (Int32.toInt_toInt64 _); have z4 := jc_nltL (a := (xs 2).toInt) (b := (1)) c_123 (Int32.toInt_toInt64 _) (by decide); have z5 := jc_nltL (a := (99999999)) (b := (xs 2).toInt) c_124 (by decide) (Int32.toInt_toInt64 _); have z6 := jc_nltL (a := (0)) (b := (xs 2).toInt) c_125 (by decide) (jc_z _); omega
  · refine jj_apd rfl ?_
    refine jj_istore C dL_law_516 (by decide) rfl ?_
    refine jj_aload_n C dL_law_518 rfl ?_
    refine jj_aload_n C dL_law_519 rfl ?_
    refine jj_iload C dL_law_520 rfl ?_
    refine jj_iconst (v := 1) C dL_law_522 (by decide) ?_
    refine jj_iadd (v := 1) C dL_law_523 (by decide) ?_
    refine jj_xld (v := xs 1) C hX hbl hbA (vp_in_iff.mpr (by decide)) rfl dL_law_524 ?_
    refine jj_aload_n C dL_law_525 rfl ?_
    refine jj_iload C dL_law_526 rfl ?_
    refine jj_iconst (v := 2) C dL_law_528 (by decide) ?_
    refine jj_iadd (v := 2) C dL_law_529 (by decide) ?_
    refine jj_xld (v := xs 2) C hX hbl hbA (vp_in_iff.mpr (by decide)) rfl dL_law_530 ?_
    refine jq_callV (rest := []) C (ct_X11_redeem_1 hl D cA ak q_28 q_31 q_32 q_36 q_33 q_34 q_35 q_37 q_38 q_39 q_40 q_41 q_42 (xs 1) (xs 2)) [10, 22, 11, 15] [0, 1, 2, 3, 4, 5, 6, 7, 8, 9, 12, 13, 14, 16, 17, 18, 19, 20, 21, 23, 24] rfl rfl (by decide) (by decide) (by decide) 0 rfl rfl rfl jw_1056 jw_1057 jw_1058 jw_224 jw_390 jn_X11_redeem rfl (jj_le rfl) (jj_le rfl) (jj_le rfl) (jj_le rfl) (jj_le rfl) dL_law_531 rfl (fun _ _ hX => hX.elim) (fun w1 r O_139 => ?_)
    rcases O_139 with ⟨c_140, rfl, rfl⟩ | ⟨c_141, c_142, rfl, rfl⟩ | ⟨c_143, c_144, c_145, rfl, rfl⟩ | ⟨c_146, c_147, c_148, c_149, rfl, rfl⟩ | ⟨c_150, c_151, c_152, c_153, c_154, rfl, rfl⟩ | ⟨f_155, c_156, c_157, c_158, c_159, c_160, rfl, rfl⟩
    · refine jj_apd rfl ?_
      refine jj_istore C dL_law_534 (by decide) rfl ?_
      refine jj_aload_n C dL_law_536 rfl ?_
      refine jq_callV (rest := []) C (ct_X11_thrown_2 hl D cA ak q_28 q_31 q_32 q_33 q_34 q_35 q_36 q_37 q_38 q_39 q_40 q_41 q_42) [24] [0, 1, 2, 3, 4, 5, 6, 7, 8, 9, 10, 11, 12, 13, 14, 15, 16, 17, 18, 19, 20, 21, 22, 23] rfl rfl (by decide) (by decide) (by decide) 0 rfl rfl rfl jw_993 jw_994 jw_995 jw_224 jw_992 jn_X11_thrown rfl (jj_le rfl) (jj_le rfl) (jj_le rfl) (jj_le rfl) (jj_le rfl) dL_law_537 rfl (fun _ _ hX => hX.elim) (fun w1 r O_162 => ?_)
      obtain ⟨rfl, rfl⟩ := O_162
      refine jj_apd rfl ?_
      refine jj_iload C dL_law_540 rfl ?_
      refine jj_icmp_eqF (tgt := 547) C dL_law_542 (by decide) (by decide) ?_
      refine jj_iconst (v := 0) C dL_law_545 (by decide) ?_
      exfalso; have z0 := jc_nlt (a := (xs 1).toInt) (b := (0)) c_51 rfl (by decide); have z1 := jc_nle (a := (1)) (b := (xs 1).toInt) c_52 (by decide) rfl; have z2 := jc_lt (a := (xs 2).toInt) (b := (1)) c_53 rfl (by decide); have z3 := jc_ltL (a := (xs 1).toInt) (b := (0)) c_140 (Int32.toInt_toInt64 _) (by decide); omega
    · refine jj_apd rfl ?_
      refine jj_istore C dL_law_534 (by decide) rfl ?_
      refine jj_aload_n C dL_law_536 rfl ?_
      refine jq_callV (rest := []) C (ct_X11_thrown_2 hl D cA ak q_28 q_31 q_32 q_33 q_34 q_35 q_36 q_37 q_38 q_39 q_40 q_41 q_42) [24] [0, 1, 2, 3, 4, 5, 6, 7, 8, 9, 10, 11, 12, 13, 14, 15, 16, 17, 18, 19, 20, 21, 22, 23] rfl rfl (by decide) (by decide) (by decide) 0 rfl rfl rfl jw_993 jw_994 jw_995 jw_224 jw_992 jn_X11_thrown rfl (jj_le rfl) (jj_le rfl) (jj_le rfl) (jj_le rfl) (jj_le rfl) dL_law_537 rfl (fun _ _ hX => hX.elim) (fun w1 r O_164 => ?_)
      obtain ⟨rfl, rfl⟩ := O_164
      refine jj_apd rfl ?_
      refine jj_iload C dL_law_540 rfl ?_
      refine jj_icmp_eqF (tgt := 547) C dL_law_542 (by decide) (by decide) ?_
      refine jj_iconst (v := 0) C dL_law_545 (by decide) ?_
      exfalso; have z0 := jc_nlt (a := (xs 1).toInt) (b := (0)) c_51 rfl (by decide); have z1 := jc_nle (a := (1)) (b := (xs 1).toInt) c_52 (by decide) rfl; have z2 := jc_lt (a := (xs 2).toInt) (b := (1)) c_53 rfl (by decide); have z3 := jc_nltL (a := (xs 1).toInt) (b := (0)) c_141 (Int32.toInt_toInt64 _) (by decide); have z4 := jc_ltL (a := (0)) (b := (xs 1).toInt) c_142 (by decide) (Int32.toInt_toInt64 _); omega
    · refine jj_apd rfl ?_
      refine jj_istore C dL_law_534 (by decide) rfl ?_
      refine jj_aload_n C dL_law_536 rfl ?_
      refine jq_callV (rest := []) C (ct_X11_thrown_4 hl D cA ak q_28 q_31 q_32 q_33 q_34 q_35 q_36 q_37 q_38 q_39 q_40 q_41 q_42) [24] [0, 1, 2, 3, 4, 5, 6, 7, 8, 9, 10, 11, 12, 13, 14, 15, 16, 17, 18, 19, 20, 21, 22, 23] rfl rfl (by decide) (by decide) (by decide) 0 rfl rfl rfl jw_993 jw_994 jw_995 jw_224 jw_992 jn_X11_thrown rfl (jj_le rfl) (jj_le rfl) (jj_le rfl) (jj_le rfl) (jj_le rfl) dL_law_537 rfl (fun _ _ hX => hX.elim) (fun w1 r O_166 => ?_)
      obtain ⟨rfl, rfl⟩ := O_166
      refine jj_apd rfl ?_
      refine jj_iload C dL_law_540 rfl ?_
      refine jj_icmp_eqT (tgt := 547) C dL_law_542 (by decide) (by decide) ?_
      refine jj_iload C dL_law_547 rfl ?_
      refine jj_if_neT (tgt := 564) C dL_law_549 (by decide) (by decide) ?_
      refine jj_goto (tgt := 2259) C dL_law_564 (by decide) ?_
      exact jj_loc [7, 2] rfl (jj_drop [] rfl (by decide) (jj_widen (k := 600006) (n := 7302072) (jj_le rfl) (jj_le rfl) hend))
    · refine jj_apd rfl ?_
      refine jj_istore C dL_law_534 (by decide) rfl ?_
      refine jj_aload_n C dL_law_536 rfl ?_
      refine jq_callV (rest := []) C (ct_X11_thrown_4 hl D cA ak q_28 q_31 q_32 q_33 q_34 q_35 q_36 q_37 q_38 q_39 q_40 q_41 q_42) [24] [0, 1, 2, 3, 4, 5, 6, 7, 8, 9, 10, 11, 12, 13, 14, 15, 16, 17, 18, 19, 20, 21, 22, 23] rfl rfl (by decide) (by decide) (by decide) 0 rfl rfl rfl jw_993 jw_994 jw_995 jw_224 jw_992 jn_X11_thrown rfl (jj_le rfl) (jj_le rfl) (jj_le rfl) (jj_le rfl) (jj_le rfl) dL_law_537 rfl (fun _ _ hX => hX.elim) (fun w1 r O_168 => ?_)
      obtain ⟨rfl, rfl⟩ := O_168
      refine jj_apd rfl ?_
      refine jj_iload C dL_law_540 rfl ?_
      refine jj_icmp_eqT (tgt := 547) C dL_law_542 (by decide) (by decide) ?_
      refine jj_iload C dL_law_547 rfl ?_
      refine jj_if_neT (tgt := 564) C dL_law_549 (by decide) (by decide) ?_
      refine jj_goto (tgt := 2259) C dL_law_564 (by decide) ?_
      exact jj_loc [7, 2] rfl (jj_drop [] rfl (by decide) (jj_widen (k := 600006) (n := 7302072) (jj_le rfl) (jj_le rfl) hend))
    · refine jj_apd rfl ?_
      refine jj_istore C dL_law_534 (by decide) rfl ?_
      refine jj_aload_n C dL_law_536 rfl ?_
      refine jq_callV (rest := []) C (ct_X11_thrown_6 hl D cA ak q_28 q_31 q_32 q_33 q_34 q_35 q_36 q_37 q_38 q_39 q_40 q_41 q_42) [24] [0, 1, 2, 3, 4, 5, 6, 7, 8, 9, 10, 11, 12, 13, 14, 15, 16, 17, 18, 19, 20, 21, 22, 23] rfl rfl (by decide) (by decide) (by decide) 0 rfl rfl rfl jw_993 jw_994 jw_995 jw_224 jw_992 jn_X11_thrown rfl (jj_le rfl) (jj_le rfl) (jj_le rfl) (jj_le rfl) (jj_le rfl) dL_law_537 rfl (fun _ _ hX => hX.elim) (fun w1 r O_170 => ?_)
      obtain ⟨rfl, rfl⟩ := O_170
      refine jj_apd rfl ?_
      refine jj_iload C dL_law_540 rfl ?_
      refine jj_icmp_eqF (tgt := 547) C dL_law_542 (by decide) (by decide) ?_
      refine jj_iconst (v := 0) C dL_law_545 (by decide) ?_
      exfalso; have z0 := jc_nlt (a := (xs 1).toInt) (b := (0)) c_51 rfl (by decide); have z1 := jc_nle (a := (1)) (b := (xs 1).toInt) c_52 (by decide) rfl; have z2 := jc_lt (a := (xs 2).toInt) (b := (1)) c_53 rfl (by decide); have z3 := jc_nltL (a := (xs 1).toInt) (b := (0)) c_150 (Int32.toInt_toInt64 _) (by decide); have z4 := jc_nltL (a := (0)) (b := (xs 1).toInt) c_151 (by decide) (Int32.toInt_toInt64 _); have z5 := jc_nltL (a := (xs 2).toInt) (b := (1)) c_152 (Int32.toInt_toInt64 _) (by decide); have z6 := jc_nltL (a := (99999999)) (b := (xs 2).toInt) c_153 (by decide) (Int32.toInt_toInt64 _); have z7 := jc_ltL (a := (0)) (b := (xs 2).toInt) c_154 (by decide) (jc_z _); omega
    · refine jj_apd rfl ?_
      refine jj_istore C dL_law_534 (by decide) rfl ?_
      refine jj_aload_n C dL_law_536 rfl ?_
      refine jq_callV (rest := []) C (ct_X11_thrown_5 hl D cA ak q_28 q_31 q_32 q_33 q_34 q_35 q_36 q_37 q_38 q_39 q_40 q_41 q_42) [23] [0, 1, 2, 3, 4, 5, 6, 7, 8, 9, 10, 11, 12, 13, 14, 15, 16, 17, 18, 19, 20, 21, 22, 24] rfl rfl (by decide) (by decide) (by decide) 0 rfl rfl rfl jw_993 jw_994 jw_995 jw_224 jw_992 jn_X11_thrown rfl (jj_le rfl) (jj_le rfl) (jj_le rfl) (jj_le rfl) (jj_le rfl) dL_law_537 rfl (fun _ _ hX => hX.elim) (fun w1 r O_172 => ?_)
      obtain ⟨rfl, rfl⟩ := O_172
      refine jj_apd rfl ?_
      refine jj_iload C dL_law_540 rfl ?_
      refine jj_icmp_eqF (tgt := 547) C dL_law_542 (by decide) (by decide) ?_
      refine jj_iconst (v := 0) C dL_law_545 (by decide) ?_
      exfalso; have z0 := jc_nlt (a := (xs 1).toInt) (b := (0)) c_51 rfl (by decide); have z1 := jc_nle (a := (1)) (b := (xs 1).toInt) c_52 (by decide) rfl; have z2 := jc_lt (a := (xs 2).toInt) (b := (1)) c_53 rfl (by decide); have z3 := jc_nltL (a := (xs 1).toInt) (b := (0)) c_156 (Int32.toInt_toInt64 _) (by decide); have z4 := jc_nltL (a := (0)) (b := (xs 1).toInt) c_157 (by decide) (Int32.toInt_toInt64 _); have z5 := jc_nltL (a := (xs 2).toInt) (b := (1)) c_158 (Int32.toInt_toInt64 _) (by decide); have z6 := jc_nltL (a := (99999999)) (b := (xs 2).toInt) c_159 (by decide) (Int32.toInt_toInt64 _); have z7 := jc_nltL (a := (0)) (b := (xs 2).toInt) c_160 (by decide) (jc_z _); omega
  · refine jj_apd rfl ?_
    refine jj_istore C dL_law_516 (by decide) rfl ?_
    refine jj_aload_n C dL_law_518 rfl ?_
    refine jj_aload_n C dL_law_519 rfl ?_
    refine jj_iload C dL_law_520 rfl ?_
    refine jj_iconst (v := 1) C dL_law_522 (by decide) ?_
    refine jj_iadd (v := 1) C dL_law_523 (by decide) ?_
    refine jj_xld (v := xs 1) C hX hbl hbA (vp_in_iff.mpr (by decide)) rfl dL_law_524 ?_
    refine jj_aload_n C dL_law_525 rfl ?_
    refine jj_iload C dL_law_526 rfl ?_
    refine jj_iconst (v := 2) C dL_law_528 (by decide) ?_
    refine jj_iadd (v := 2) C dL_law_529 (by decide) ?_
    refine jj_xld (v := xs 2) C hX hbl hbA (vp_in_iff.mpr (by decide)) rfl dL_law_530 ?_
    refine jq_callV (rest := []) C (ct_X11_redeem_1 hl D cA ak q_28 q_31 q_32 q_36 q_33 q_34 q_35 q_37 q_38 q_39 q_40 q_41 q_42 (xs 1) (xs 2)) [10, 22, 11, 15] [0, 1, 2, 3, 4, 5, 6, 7, 8, 9, 12, 13, 14, 16, 17, 18, 19, 20, 21, 23, 24] rfl rfl (by decide) (by decide) (by decide) 0 rfl rfl rfl jw_1056 jw_1057 jw_1058 jw_224 jw_390 jn_X11_redeem rfl (jj_le rfl) (jj_le rfl) (jj_le rfl) (jj_le rfl) (jj_le rfl) dL_law_531 rfl (fun _ _ hX => hX.elim) (fun w1 r O_174 => ?_)
    rcases O_174 with ⟨c_175, rfl, rfl⟩ | ⟨c_176, c_177, rfl, rfl⟩ | ⟨c_178, c_179, c_180, rfl, rfl⟩ | ⟨c_181, c_182, c_183, c_184, rfl, rfl⟩ | ⟨c_185, c_186, c_187, c_188, c_189, rfl, rfl⟩ | ⟨f_190, c_191, c_192, c_193, c_194, c_195, rfl, rfl⟩
    · refine jj_apd rfl ?_
      refine jj_istore C dL_law_534 (by decide) rfl ?_
      refine jj_aload_n C dL_law_536 rfl ?_
      refine jq_callV (rest := []) C (ct_X11_thrown_2 hl D cA ak q_28 q_31 q_32 q_33 q_34 q_35 q_36 q_37 q_38 q_39 q_40 q_41 q_42) [24] [0, 1, 2, 3, 4, 5, 6, 7, 8, 9, 10, 11, 12, 13, 14, 15, 16, 17, 18, 19, 20, 21, 22, 23] rfl rfl (by decide) (by decide) (by decide) 0 rfl rfl rfl jw_993 jw_994 jw_995 jw_224 jw_992 jn_X11_thrown rfl (jj_le rfl) (jj_le rfl) (jj_le rfl) (jj_le rfl) (jj_le rfl) dL_law_537 rfl (fun _ _ hX => hX.elim) (fun w1 r O_197 => ?_)
      obtain ⟨rfl, rfl⟩ := O_197
      refine jj_apd rfl ?_
      refine jj_iload C dL_law_540 rfl ?_
      refine jj_icmp_eqF (tgt := 547) C dL_law_542 (by decide) (by decide) ?_
      refine jj_iconst (v := 0) C dL_law_545 (by decide) ?_
      exfalso; have z0 := jc_nlt (a := (xs 1).toInt) (b := (0)) c_54 rfl (by decide); have z1 := jc_nle (a := (1)) (b := (xs 1).toInt) c_55 (by decide) rfl; have z2 := jc_nlt (a := (xs 2).toInt) (b := (1)) c_56 rfl (by decide); have z3 := jc_le (a := (xs 2).toInt) (b := (99999999)) c_57 rfl (by decide); have z4 := jc_nleL (a := (xs 2).toInt) (b := (0)) c_58 (jc_z _) (by decide); have z5 := jc_ltL (a := (xs 1).toInt) (b := (0)) c_175 (Int32.toInt_toInt64 _) (by decide); omega
    · refine jj_apd rfl ?_
      refine jj_istore C dL_law_534 (by decide) rfl ?_
      refine jj_aload_n C dL_law_536 rfl ?_
      refine jq_callV (rest := []) C (ct_X11_thrown_2 hl D cA ak q_28 q_31 q_32 q_33 q_34 q_35 q_36 q_37 q_38 q_39 q_40 q_41 q_42) [24] [0, 1, 2, 3, 4, 5, 6, 7, 8, 9, 10, 11, 12, 13, 14, 15, 16, 17, 18, 19, 20, 21, 22, 23] rfl rfl (by decide) (by decide) (by decide) 0 rfl rfl rfl jw_993 jw_994 jw_995 jw_224 jw_992 jn_X11_thrown rfl (jj_le rfl) (jj_le rfl) (jj_le rfl) (jj_le rfl) (jj_le rfl) dL_law_537 rfl (fun _ _ hX => hX.elim) (fun w1 r O_199 => ?_)
      obtain ⟨rfl, rfl⟩ := O_199
      refine jj_apd rfl ?_
      refine jj_iload C dL_law_540 rfl ?_
      refine jj_icmp_eqF (tgt := 547) C dL_law_542 (by decide) (by decide) ?_
      refine jj_iconst (v := 0) C dL_law_545 (by decide) ?_
      exfalso; have z0 := jc_nlt (a := (xs 1).toInt) (b := (0)) c_54 rfl (by decide); have z1 := jc_nle (a := (1)) (b := (xs 1).toInt) c_55 (by decide) rfl; have z2 := jc_nlt (a := (xs 2).toInt) (b := (1)) c_56 rfl (by decide); have z3 := jc_le (a := (xs 2).toInt) (b := (99999999)) c_57 rfl (by decide); have z4 := jc_nleL (a := (xs 2).toInt) (b := (0)) c_58 (jc_z _) (by decide); have z5 := jc_nltL (a := (xs 1).toInt) (b := (0)) c_176 (Int32.toInt_toInt64 _) (by decide); have z6 := jc_ltL (a := (0)) (b := (xs 1).toInt) c_177 (by decide) (Int32.toInt_toInt64 _); omega
    · refine jj_apd rfl ?_
      refine jj_istore C dL_law_534 (by decide) rfl ?_
      refine jj_aload_n C dL_law_536 rfl ?_
      refine jq_callV (rest := []) C (ct_X11_thrown_4 hl D cA ak q_28 q_31 q_32 q_33 q_34 q_35 q_36 q_37 q_38 q_39 q_40 q_41 q_42) [24] [0, 1, 2, 3, 4, 5, 6, 7, 8, 9, 10, 11, 12, 13, 14, 15, 16, 17, 18, 19, 20, 21, 22, 23] rfl rfl (by decide) (by decide) (by decide) 0 rfl rfl rfl jw_993 jw_994 jw_995 jw_224 jw_992 jn_X11_thrown rfl (jj_le rfl) (jj_le rfl) (jj_le rfl) (jj_le rfl) (jj_le rfl) dL_law_537 rfl (fun _ _ hX => hX.elim) (fun w1 r O_201 => ?_)
      obtain ⟨rfl, rfl⟩ := O_201
      refine jj_apd rfl ?_
      refine jj_iload C dL_law_540 rfl ?_
      refine jj_icmp_eqF (tgt := 547) C dL_law_542 (by decide) (by decide) ?_
      refine jj_iconst (v := 0) C dL_law_545 (by decide) ?_
      exfalso; have z0 := jc_nlt (a := (xs 1).toInt) (b := (0)) c_54 rfl (by decide); have z1 := jc_nle (a := (1)) (b := (xs 1).toInt) c_55 (by decide) rfl; have z2 := jc_nlt (a := (xs 2).toInt) (b := (1)) c_56 rfl (by decide); have z3 := jc_le (a := (xs 2).toInt) (b := (99999999)) c_57 rfl (by decide); have z4 := jc_nleL (a := (xs 2).toInt) (b := (0)) c_58 (jc_z _) (by decide); have z5 := jc_nltL (a := (xs 1).toInt) (b := (0)) c_178 (Int32.toInt_toInt64 _) (by decide); have z6 := jc_nltL (a := (0)) (b := (xs 1).toInt) c_179 (by decide) (Int32.toInt_toInt64 _); have z7 := jc_ltL (a := (xs 2).toInt) (b := (1)) c_180 (Int32.toInt_toInt64 _) (by decide); omega
    · refine jj_apd rfl ?_
      refine jj_istore C dL_law_534 (by decide) rfl ?_
      refine jj_aload_n C dL_law_536 rfl ?_
      refine jq_callV (rest := []) C (ct_X11_thrown_4 hl D cA ak q_28 q_31 q_32 q_33 q_34 q_35 q_36 q_37 q_38 q_39 q_40 q_41 q_42) [24] [0, 1, 2, 3, 4, 5, 6, 7, 8, 9, 10, 11, 12, 13, 14, 15, 16, 17, 18, 19, 20, 21, 22, 23] rfl rfl (by decide) (by decide) (by decide) 0 rfl rfl rfl jw_993 jw_994 jw_995 jw_224 jw_992 jn_X11_thrown rfl (jj_le rfl) (jj_le rfl) (jj_le rfl) (jj_le rfl) (jj_le rfl) dL_law_537 rfl (fun _ _ hX => hX.elim) (fun w1 r O_203 => ?_)
      obtain ⟨rfl, rfl⟩ := O_203
      refine jj_apd rfl ?_
      refine jj_iload C dL_law_540 rfl ?_
      refine jj_icmp_eqF (tgt := 547) C dL_law_542 (by decide) (by decide) ?_
      refine jj_iconst (v := 0) C dL_law_545 (by decide) ?_
      exfalso; have z0 := jc_nlt (a := (xs 1).toInt) (b := (0)) c_54 rfl (by decide); have z1 := jc_nle (a := (1)) (b := (xs 1).toInt) c_55 (by decide) rfl; have z2 := jc_nlt (a := (xs 2).toInt) (b := (1)) c_56 rfl (by decide); have z3 := jc_le (a := (xs 2).toInt) (b := (99999999)) c_57 rfl (by decide); have z4 := jc_nleL (a := (xs 2).toInt) (b := (0)) c_58 (jc_z _) (by decide); have z5 := jc_nltL (a := (xs 1).toInt) (b := (0)) c_181 (Int32.toInt_toInt64 _) (by decide); have z6 := jc_nltL (a := (0)) (b := (xs 1).toInt) c_182 (by decide) (Int32.toInt_toInt64 _); have z7 := jc_nltL (a := (xs 2).toInt) (b := (1)) c_183 (Int32.toInt_toInt64 _) (by decide); have z8 := jc_ltL (a := (99999999)) (b := (xs 2).toInt) c_184 (by decide) (Int32.toInt_toInt64 _); omega
    · refine jj_apd rfl ?_
      refine jj_istore C dL_law_534 (by decide) rfl ?_
      refine jj_aload_n C dL_law_536 rfl ?_
      refine jq_callV (rest := []) C (ct_X11_thrown_6 hl D cA ak q_28 q_31 q_32 q_33 q_34 q_35 q_36 q_37 q_38 q_39 q_40 q_41 q_42) [24] [0, 1, 2, 3, 4, 5, 6, 7, 8, 9, 10, 11, 12, 13, 14, 15, 16, 17, 18, 19, 20, 21, 22, 23] rfl rfl (by decide) (by decide) (by decide) 0 rfl rfl rfl jw_993 jw_994 jw_995 jw_224 jw_992 jn_X11_thrown rfl (jj_le rfl) (jj_le rfl) (jj_le rfl) (jj_le rfl) (jj_le rfl) dL_law_537 rfl (fun _ _ hX => hX.elim) (fun w1 r O_205 => ?_)
      obtain ⟨rfl, rfl⟩ := O_205
      refine jj_apd rfl ?_
      refine jj_iload C dL_law_540 rfl ?_
      refine jj_icmp_eqT (tgt := 547) C dL_law_542 (by decide) (by decide) ?_
      refine jj_iload C dL_law_547 rfl ?_
      refine jj_if_neT (tgt := 564) C dL_law_549 (by decide) (by decide) ?_
      refine jj_goto (tgt := 2259) C dL_law_564 (by decide) ?_
      exact jj_loc [7, 2] rfl (jj_drop [] rfl (by decide) (jj_widen (k := 600006) (n := 7302072) (jj_le rfl) (jj_le rfl) hend))
    · refine jj_apd rfl ?_
      refine jj_istore C dL_law_534 (by decide) rfl ?_
      refine jj_aload_n C dL_law_536 rfl ?_
      refine jq_callV (rest := []) C (ct_X11_thrown_5 hl D cA ak q_28 q_31 q_32 q_33 q_34 q_35 q_36 q_37 q_38 q_39 q_40 q_41 q_42) [23] [0, 1, 2, 3, 4, 5, 6, 7, 8, 9, 10, 11, 12, 13, 14, 15, 16, 17, 18, 19, 20, 21, 22, 24] rfl rfl (by decide) (by decide) (by decide) 0 rfl rfl rfl jw_993 jw_994 jw_995 jw_224 jw_992 jn_X11_thrown rfl (jj_le rfl) (jj_le rfl) (jj_le rfl) (jj_le rfl) (jj_le rfl) dL_law_537 rfl (fun _ _ hX => hX.elim) (fun w1 r O_207 => ?_)
      obtain ⟨rfl, rfl⟩ := O_207
      refine jj_apd rfl ?_
      refine jj_iload C dL_law_540 rfl ?_
      refine jj_icmp_eqF (tgt := 547) C dL_law_542 (by decide) (by decide) ?_
      refine jj_iconst (v := 0) C dL_law_545 (by decide) ?_
      exfalso; have z0 := jc_nlt (a := (xs 1).toInt) (b := (0)) c_54 rfl (by decide); have z1 := jc_nle (a := (1)) (b := (xs 1).toInt) c_55 (by decide) rfl; have z2 := jc_nlt (a := (xs 2).toInt) (b := (1)) c_56 rfl (by decide); have z3 := jc_le (a := (xs 2).toInt) (b := (99999999)) c_57 rfl (by decide); have z4 := jc_nleL (a := (xs 2).toInt) (b := (0)) c_58 (jc_z _) (by decide); have z5 := jc_nltL (a := (xs 1).toInt) (b := (0)) c_191 (Int32.toInt_toInt64 _) (by decide); have z6 := jc_nltL (a := (0)) (b := (xs 1).toInt) c_192 (by decide) (Int32.toInt_toInt64 _); have z7 := jc_nltL (a := (xs 2).toInt) (b := (1)) c_193 (Int32.toInt_toInt64 _) (by decide); have z8 := jc_nltL (a := (99999999)) (b := (xs 2).toInt) c_194 (by decide) (Int32.toInt_toInt64 _); have z9 := jc_nltL (a := (0)) (b := (xs 2).toInt) c_195 (by decide) (jc_z _); omega
  · refine jj_apd rfl ?_
    refine jj_istore C dL_law_516 (by decide) rfl ?_
    refine jj_aload_n C dL_law_518 rfl ?_
    refine jj_aload_n C dL_law_519 rfl ?_
    refine jj_iload C dL_law_520 rfl ?_
    refine jj_iconst (v := 1) C dL_law_522 (by decide) ?_
    refine jj_iadd (v := 1) C dL_law_523 (by decide) ?_
    refine jj_xld (v := xs 1) C hX hbl hbA (vp_in_iff.mpr (by decide)) rfl dL_law_524 ?_
    refine jj_aload_n C dL_law_525 rfl ?_
    refine jj_iload C dL_law_526 rfl ?_
    refine jj_iconst (v := 2) C dL_law_528 (by decide) ?_
    refine jj_iadd (v := 2) C dL_law_529 (by decide) ?_
    refine jj_xld (v := xs 2) C hX hbl hbA (vp_in_iff.mpr (by decide)) rfl dL_law_530 ?_
    refine jq_callV (rest := []) C (ct_X11_redeem_1 hl D cA ak q_28 q_31 q_32 q_36 q_33 q_34 q_35 q_37 q_38 q_39 q_40 q_41 q_42 (xs 1) (xs 2)) [10, 22, 11, 15] [0, 1, 2, 3, 4, 5, 6, 7, 8, 9, 12, 13, 14, 16, 17, 18, 19, 20, 21, 23, 24] rfl rfl (by decide) (by decide) (by decide) 0 rfl rfl rfl jw_1056 jw_1057 jw_1058 jw_224 jw_390 jn_X11_redeem rfl (jj_le rfl) (jj_le rfl) (jj_le rfl) (jj_le rfl) (jj_le rfl) dL_law_531 rfl (fun _ _ hX => hX.elim) (fun w1 r O_209 => ?_)
    rcases O_209 with ⟨c_210, rfl, rfl⟩ | ⟨c_211, c_212, rfl, rfl⟩ | ⟨c_213, c_214, c_215, rfl, rfl⟩ | ⟨c_216, c_217, c_218, c_219, rfl, rfl⟩ | ⟨c_220, c_221, c_222, c_223, c_224, rfl, rfl⟩ | ⟨f_225, c_226, c_227, c_228, c_229, c_230, rfl, rfl⟩
    · refine jj_apd rfl ?_
      refine jj_istore C dL_law_534 (by decide) rfl ?_
      refine jj_aload_n C dL_law_536 rfl ?_
      refine jq_callV (rest := []) C (ct_X11_thrown_2 hl D cA ak q_28 q_31 q_32 q_33 q_34 q_35 q_36 q_37 q_38 q_39 q_40 q_41 q_42) [24] [0, 1, 2, 3, 4, 5, 6, 7, 8, 9, 10, 11, 12, 13, 14, 15, 16, 17, 18, 19, 20, 21, 22, 23] rfl rfl (by decide) (by decide) (by decide) 0 rfl rfl rfl jw_993 jw_994 jw_995 jw_224 jw_992 jn_X11_thrown rfl (jj_le rfl) (jj_le rfl) (jj_le rfl) (jj_le rfl) (jj_le rfl) dL_law_537 rfl (fun _ _ hX => hX.elim) (fun w1 r O_232 => ?_)
      obtain ⟨rfl, rfl⟩ := O_232
      refine jj_apd rfl ?_
      refine jj_iload C dL_law_540 rfl ?_
      refine jj_icmp_eqF (tgt := 547) C dL_law_542 (by decide) (by decide) ?_
      refine jj_iconst (v := 0) C dL_law_545 (by decide) ?_
      exfalso; have z0 := jc_nlt (a := (xs 1).toInt) (b := (0)) c_59 rfl (by decide); have z1 := jc_nle (a := (1)) (b := (xs 1).toInt) c_60 (by decide) rfl; have z2 := jc_nlt (a := (xs 2).toInt) (b := (1)) c_61 rfl (by decide); have z3 := jc_nle (a := (xs 2).toInt) (b := (99999999)) c_62 rfl (by decide); have z4 := jc_ltL (a := (xs 1).toInt) (b := (0)) c_210 (Int32.toInt_toInt64 _) (by decide); omega
    · refine jj_apd rfl ?_
      refine jj_istore C dL_law_534 (by decide) rfl ?_
      refine jj_aload_n C dL_law_536 rfl ?_
      refine jq_callV (rest := []) C (ct_X11_thrown_2 hl D cA ak q_28 q_31 q_32 q_33 q_34 q_35 q_36 q_37 q_38 q_39 q_40 q_41 q_42) [24] [0, 1, 2, 3, 4, 5, 6, 7, 8, 9, 10, 11, 12, 13, 14, 15, 16, 17, 18, 19, 20, 21, 22, 23] rfl rfl (by decide) (by decide) (by decide) 0 rfl rfl rfl jw_993 jw_994 jw_995 jw_224 jw_992 jn_X11_thrown rfl (jj_le rfl) (jj_le rfl) (jj_le rfl) (jj_le rfl) (jj_le rfl) dL_law_537 rfl (fun _ _ hX => hX.elim) (fun w1 r O_234 => ?_)
      obtain ⟨rfl, rfl⟩ := O_234
      refine jj_apd rfl ?_
      refine jj_iload C dL_law_540 rfl ?_
      refine jj_icmp_eqF (tgt := 547) C dL_law_542 (by decide) (by decide) ?_
      refine jj_iconst (v := 0) C dL_law_545 (by decide) ?_
      exfalso; have z0 := jc_nlt (a := (xs 1).toInt) (b := (0)) c_59 rfl (by decide); have z1 := jc_nle (a := (1)) (b := (xs 1).toInt) c_60 (by decide) rfl; have z2 := jc_nlt (a := (xs 2).toInt) (b := (1)) c_61 rfl (by decide); have z3 := jc_nle (a := (xs 2).toInt) (b := (99999999)) c_62 rfl (by decide); have z4 := jc_nltL (a := (xs 1).toInt) (b := (0)) c_211 (Int32.toInt_toInt64 _) (by decide); have z5 := jc_ltL (a := (0)) (b := (xs 1).toInt) c_212 (by decide) (Int32.toInt_toInt64 _); omega
    · refine jj_apd rfl ?_
      refine jj_istore C dL_law_534 (by decide) rfl ?_
      refine jj_aload_n C dL_law_536 rfl ?_
      refine jq_callV (rest := []) C (ct_X11_thrown_4 hl D cA ak q_28 q_31 q_32 q_33 q_34 q_35 q_36 q_37 q_38 q_39 q_40 q_41 q_42) [24] [0, 1, 2, 3, 4, 5, 6, 7, 8, 9, 10, 11, 12, 13, 14, 15, 16, 17, 18, 19, 20, 21, 22, 23] rfl rfl (by decide) (by decide) (by decide) 0 rfl rfl rfl jw_993 jw_994 jw_995 jw_224 jw_992 jn_X11_thrown rfl (jj_le rfl) (jj_le rfl) (jj_le rfl) (jj_le rfl) (jj_le rfl) dL_law_537 rfl (fun _ _ hX => hX.elim) (fun w1 r O_236 => ?_)
      obtain ⟨rfl, rfl⟩ := O_236
      refine jj_apd rfl ?_
      refine jj_iload C dL_law_540 rfl ?_
      refine jj_icmp_eqT (tgt := 547) C dL_law_542 (by decide) (by decide) ?_
      refine jj_iload C dL_law_547 rfl ?_
      refine jj_if_neT (tgt := 564) C dL_law_549 (by decide) (by decide) ?_
      refine jj_goto (tgt := 2259) C dL_law_564 (by decide) ?_
      exact jj_loc [7, 2] rfl (jj_drop [] rfl (by decide) (jj_widen (k := 600006) (n := 7302072) (jj_le rfl) (jj_le rfl) hend))
    · refine jj_apd rfl ?_
      refine jj_istore C dL_law_534 (by decide) rfl ?_
      refine jj_aload_n C dL_law_536 rfl ?_
      refine jq_callV (rest := []) C (ct_X11_thrown_4 hl D cA ak q_28 q_31 q_32 q_33 q_34 q_35 q_36 q_37 q_38 q_39 q_40 q_41 q_42) [24] [0, 1, 2, 3, 4, 5, 6, 7, 8, 9, 10, 11, 12, 13, 14, 15, 16, 17, 18, 19, 20, 21, 22, 23] rfl rfl (by decide) (by decide) (by decide) 0 rfl rfl rfl jw_993 jw_994 jw_995 jw_224 jw_992 jn_X11_thrown rfl (jj_le rfl) (jj_le rfl) (jj_le rfl) (jj_le rfl) (jj_le rfl) dL_law_537 rfl (fun _ _ hX => hX.elim) (fun w1 r O_238 => ?_)
      obtain ⟨rfl, rfl⟩ := O_238
      refine jj_apd rfl ?_
      refine jj_iload C dL_law_540 rfl ?_
      refine jj_icmp_eqT (tgt := 547) C dL_law_542 (by decide) (by decide) ?_
      refine jj_iload C dL_law_547 rfl ?_
      refine jj_if_neT (tgt := 564) C dL_law_549 (by decide) (by decide) ?_
      refine jj_goto (tgt := 2259) C dL_law_564 (by decide) ?_
      exact jj_loc [7, 2] rfl (jj_drop [] rfl (by decide) (jj_widen (k := 600006) (n := 7302072) (jj_le rfl) (jj_le rfl) hend))
    · refine jj_apd rfl ?_
      refine jj_istore C dL_law_534 (by decide) rfl ?_
      refine jj_aload_n C dL_law_536 rfl ?_
      refine jq_callV (rest := []) C (ct_X11_thrown_6 hl D cA ak q_28 q_31 q_32 q_33 q_34 q_35 q_36 q_37 q_38 q_39 q_40 q_41 q_42) [24] [0, 1, 2, 3, 4, 5, 6, 7, 8, 9, 10, 11, 12, 13, 14, 15, 16, 17, 18, 19, 20, 21, 22, 23] rfl rfl (by decide) (by decide) (by decide) 0 rfl rfl rfl jw_993 jw_994 jw_995 jw_224 jw_992 jn_X11_thrown rfl (jj_le rfl) (jj_le rfl) (jj_le rfl) (jj_le rfl) (jj_le rfl) dL_law_537 rfl (fun _ _ hX => hX.elim) (fun w1 r O_240 => ?_)
      obtain ⟨rfl, rfl⟩ := O_240
      refine jj_apd rfl ?_
      refine jj_iload C dL_law_540 rfl ?_
      refine jj_icmp_eqF (tgt := 547) C dL_law_542 (by decide) (by decide) ?_
      refine jj_iconst (v := 0) C dL_law_545 (by decide) ?_
      exfalso; have z0 := jc_nlt (a := (xs 1).toInt) (b := (0)) c_59 rfl (by decide); have z1 := jc_nle (a := (1)) (b := (xs 1).toInt) c_60 (by decide) rfl; have z2 := jc_nlt (a := (xs 2).toInt) (b := (1)) c_61 rfl (by decide); have z3 := jc_nle (a := (xs 2).toInt) (b := (99999999)) c_62 rfl (by decide); have z4 := jc_nltL (a := (xs 1).toInt) (b := (0)) c_220 (Int32.toInt_toInt64 _) (by decide); have z5 := jc_nltL (a := (0)) (b := (xs 1).toInt) c_221 (by decide) (Int32.toInt_toInt64 _); have z6 := jc_nltL (a := (xs 2).toInt) (b := (1)) c_222 (Int32.toInt_toInt64 _) (by decide); have z7 := jc_nltL (a := (99999999)) (b := (xs 2).toInt) c_223 (by decide) (Int32.toInt_toInt64 _); have z8 := jc_ltL (a := (0)) (b := (xs 2).toInt) c_224 (by decide) (jc_z _); omega
    · refine jj_apd rfl ?_
      refine jj_istore C dL_law_534 (by decide) rfl ?_
      refine jj_aload_n C dL_law_536 rfl ?_
      refine jq_callV (rest := []) C (ct_X11_thrown_5 hl D cA ak q_28 q_31 q_32 q_33 q_34 q_35 q_36 q_37 q_38 q_39 q_40 q_41 q_42) [23] [0, 1, 2, 3, 4, 5, 6, 7, 8, 9, 10, 11, 12, 13, 14, 15, 16, 17, 18, 19, 20, 21, 22, 24] rfl rfl (by decide) (by decide) (by decide) 0 rfl rfl rfl jw_993 jw_994 jw_995 jw_224 jw_992 jn_X11_thrown rfl (jj_le rfl) (jj_le rfl) (jj_le rfl) (jj_le rfl) (jj_le rfl) dL_law_537 rfl (fun _ _ hX => hX.elim) (fun w1 r O_242 => ?_)
      obtain ⟨rfl, rfl⟩ := O_242
      refine jj_apd rfl ?_
      refine jj_iload C dL_law_540 rfl ?_
      refine jj_icmp_eqF (tgt := 547) C dL_law_542 (by decide) (by decide) ?_
      refine jj_iconst (v := 0) C dL_law_545 (by decide) ?_
      exfalso; have z0 := jc_nlt (a := (xs 1).toInt) (b := (0)) c_59 rfl (by decide); have z1 := jc_nle (a := (1)) (b := (xs 1).toInt) c_60 (by decide) rfl; have z2 := jc_nlt (a := (xs 2).toInt) (b := (1)) c_61 rfl (by decide); have z3 := jc_nle (a := (xs 2).toInt) (b := (99999999)) c_62 rfl (by decide); have z4 := jc_nltL (a := (xs 1).toInt) (b := (0)) c_226 (Int32.toInt_toInt64 _) (by decide); have z5 := jc_nltL (a := (0)) (b := (xs 1).toInt) c_227 (by decide) (Int32.toInt_toInt64 _); have z6 := jc_nltL (a := (xs 2).toInt) (b := (1)) c_228 (Int32.toInt_toInt64 _) (by decide); have z7 := jc_nltL (a := (99999999)) (b := (xs 2).toInt) c_229 (by decide) (Int32.toInt_toInt64 _); have z8 := jc_nltL (a := (0)) (b := (xs 2).toInt) c_230 (by decide) (jc_z _); omega
  · refine jj_apd rfl ?_
    refine jj_istore C dL_law_516 (by decide) rfl ?_
    refine jj_aload_n C dL_law_518 rfl ?_
    refine jj_aload_n C dL_law_519 rfl ?_
    refine jj_iload C dL_law_520 rfl ?_
    refine jj_iconst (v := 1) C dL_law_522 (by decide) ?_
    refine jj_iadd (v := 1) C dL_law_523 (by decide) ?_
    refine jj_xld (v := xs 1) C hX hbl hbA (vp_in_iff.mpr (by decide)) rfl dL_law_524 ?_
    refine jj_aload_n C dL_law_525 rfl ?_
    refine jj_iload C dL_law_526 rfl ?_
    refine jj_iconst (v := 2) C dL_law_528 (by decide) ?_
    refine jj_iadd (v := 2) C dL_law_529 (by decide) ?_
    refine jj_xld (v := xs 2) C hX hbl hbA (vp_in_iff.mpr (by decide)) rfl dL_law_530 ?_
    refine jq_callV (rest := []) C (ct_X11_redeem_1 hl D cA ak q_28 q_31 q_32 q_36 q_33 q_34 q_35 q_37 q_38 q_39 q_40 q_41 q_42 (xs 1) (xs 2)) [10, 22, 11, 15] [0, 1, 2, 3, 4, 5, 6, 7, 8, 9, 12, 13, 14, 16, 17, 18, 19, 20, 21, 23, 24] rfl rfl (by decide) (by decide) (by decide) 0 rfl rfl rfl jw_1056 jw_1057 jw_1058 jw_224 jw_390 jn_X11_redeem rfl (jj_le rfl) (jj_le rfl) (jj_le rfl) (jj_le rfl) (jj_le rfl) dL_law_531 rfl (fun _ _ hX => hX.elim) (fun w1 r O_244 => ?_)
    rcases O_244 with ⟨c_245, rfl, rfl⟩ | ⟨c_246, c_247, rfl, rfl⟩ | ⟨c_248, c_249, c_250, rfl, rfl⟩ | ⟨c_251, c_252, c_253, c_254, rfl, rfl⟩ | ⟨c_255, c_256, c_257, c_258, c_259, rfl, rfl⟩ | ⟨f_260, c_261, c_262, c_263, c_264, c_265, rfl, rfl⟩
    · refine jj_apd rfl ?_
      refine jj_istore C dL_law_534 (by decide) rfl ?_
      refine jj_aload_n C dL_law_536 rfl ?_
      refine jq_callV (rest := []) C (ct_X11_thrown_2 hl D cA ak q_28 q_31 q_32 q_33 q_34 q_35 q_36 q_37 q_38 q_39 q_40 q_41 q_42) [24] [0, 1, 2, 3, 4, 5, 6, 7, 8, 9, 10, 11, 12, 13, 14, 15, 16, 17, 18, 19, 20, 21, 22, 23] rfl rfl (by decide) (by decide) (by decide) 0 rfl rfl rfl jw_993 jw_994 jw_995 jw_224 jw_992 jn_X11_thrown rfl (jj_le rfl) (jj_le rfl) (jj_le rfl) (jj_le rfl) (jj_le rfl) dL_law_537 rfl (fun _ _ hX => hX.elim) (fun w1 r O_267 => ?_)
      obtain ⟨rfl, rfl⟩ := O_267
      refine jj_apd rfl ?_
      refine jj_iload C dL_law_540 rfl ?_
      refine jj_icmp_eqF (tgt := 547) C dL_law_542 (by decide) (by decide) ?_
      refine jj_iconst (v := 0) C dL_law_545 (by decide) ?_
      exfalso; have z0 := jc_nlt (a := (xs 1).toInt) (b := (0)) c_63 rfl (by decide); have z1 := jc_nle (a := (1)) (b := (xs 1).toInt) c_64 (by decide) rfl; have z2 := jc_nlt (a := (xs 2).toInt) (b := (1)) c_65 rfl (by decide); have z3 := jc_le (a := (xs 2).toInt) (b := (99999999)) c_66 rfl (by decide); have z4 := jc_leL (a := (xs 2).toInt) (b := (0)) c_67 (jc_z _) (by decide); have z5 := jc_ltL (a := (xs 1).toInt) (b := (0)) c_245 (Int32.toInt_toInt64 _) (by decide); omega
    · refine jj_apd rfl ?_
      refine jj_istore C dL_law_534 (by decide) rfl ?_
      refine jj_aload_n C dL_law_536 rfl ?_
      refine jq_callV (rest := []) C (ct_X11_thrown_2 hl D cA ak q_28 q_31 q_32 q_33 q_34 q_35 q_36 q_37 q_38 q_39 q_40 q_41 q_42) [24] [0, 1, 2, 3, 4, 5, 6, 7, 8, 9, 10, 11, 12, 13, 14, 15, 16, 17, 18, 19, 20, 21, 22, 23] rfl rfl (by decide) (by decide) (by decide) 0 rfl rfl rfl jw_993 jw_994 jw_995 jw_224 jw_992 jn_X11_thrown rfl (jj_le rfl) (jj_le rfl) (jj_le rfl) (jj_le rfl) (jj_le rfl) dL_law_537 rfl (fun _ _ hX => hX.elim) (fun w1 r O_269 => ?_)
      obtain ⟨rfl, rfl⟩ := O_269
      refine jj_apd rfl ?_
      refine jj_iload C dL_law_540 rfl ?_
      refine jj_icmp_eqF (tgt := 547) C dL_law_542 (by decide) (by decide) ?_
      refine jj_iconst (v := 0) C dL_law_545 (by decide) ?_
      exfalso; have z0 := jc_nlt (a := (xs 1).toInt) (b := (0)) c_63 rfl (by decide); have z1 := jc_nle (a := (1)) (b := (xs 1).toInt) c_64 (by decide) rfl; have z2 := jc_nlt (a := (xs 2).toInt) (b := (1)) c_65 rfl (by decide); have z3 := jc_le (a := (xs 2).toInt) (b := (99999999)) c_66 rfl (by decide); have z4 := jc_leL (a := (xs 2).toInt) (b := (0)) c_67 (jc_z _) (by decide); have z5 := jc_nltL (a := (xs 1).toInt) (b := (0)) c_246 (Int32.toInt_toInt64 _) (by decide); have z6 := jc_ltL (a := (0)) (b := (xs 1).toInt) c_247 (by decide) (Int32.toInt_toInt64 _); omega
    · refine jj_apd rfl ?_
      refine jj_istore C dL_law_534 (by decide) rfl ?_
      refine jj_aload_n C dL_law_536 rfl ?_
      refine jq_callV (rest := []) C (ct_X11_thrown_4 hl D cA ak q_28 q_31 q_32 q_33 q_34 q_35 q_36 q_37 q_38 q_39 q_40 q_41 q_42) [24] [0, 1, 2, 3, 4, 5, 6, 7, 8, 9, 10, 11, 12, 13, 14, 15, 16, 17, 18, 19, 20, 21, 22, 23] rfl rfl (by decide) (by decide) (by decide) 0 rfl rfl rfl jw_993 jw_994 jw_995 jw_224 jw_992 jn_X11_thrown rfl (jj_le rfl) (jj_le rfl) (jj_le rfl) (jj_le rfl) (jj_le rfl) dL_law_537 rfl (fun _ _ hX => hX.elim) (fun w1 r O_271 => ?_)
      obtain ⟨rfl, rfl⟩ := O_271
      refine jj_apd rfl ?_
      refine jj_iload C dL_law_540 rfl ?_
      refine jj_icmp_eqF (tgt := 547) C dL_law_542 (by decide) (by decide) ?_
      refine jj_iconst (v := 0) C dL_law_545 (by decide) ?_
      exfalso; have z0 := jc_nlt (a := (xs 1).toInt) (b := (0)) c_63 rfl (by decide); have z1 := jc_nle (a := (1)) (b := (xs 1).toInt) c_64 (by decide) rfl; have z2 := jc_nlt (a := (xs 2).toInt) (b := (1)) c_65 rfl (by decide); have z3 := jc_le (a := (xs 2).toInt) (b := (99999999)) c_66 rfl (by decide); have z4 := jc_leL (a := (xs 2).toInt) (b := (0)) c_67 (jc_z _) (by decide); have z5 := jc_nltL (a := (xs 1).toInt) (b := (0)) c_248 (Int32.toInt_toInt64 _) (by decide); have z6 := jc_nltL (a := (0)) (b := (xs 1).toInt) c_249 (by decide) (Int32.toInt_toInt64 _); have z7 := jc_ltL (a := (xs 2).toInt) (b := (1)) c_250 (Int32.toInt_toInt64 _) (by decide); omega
    · refine jj_apd rfl ?_
      refine jj_istore C dL_law_534 (by decide) rfl ?_
      refine jj_aload_n C dL_law_536 rfl ?_
      refine jq_callV (rest := []) C (ct_X11_thrown_4 hl D cA ak q_28 q_31 q_32 q_33 q_34 q_35 q_36 q_37 q_38 q_39 q_40 q_41 q_42) [24] [0, 1, 2, 3, 4, 5, 6, 7, 8, 9, 10, 11, 12, 13, 14, 15, 16, 17, 18, 19, 20, 21, 22, 23] rfl rfl (by decide) (by decide) (by decide) 0 rfl rfl rfl jw_993 jw_994 jw_995 jw_224 jw_992 jn_X11_thrown rfl (jj_le rfl) (jj_le rfl) (jj_le rfl) (jj_le rfl) (jj_le rfl) dL_law_537 rfl (fun _ _ hX => hX.elim) (fun w1 r O_273 => ?_)
      obtain ⟨rfl, rfl⟩ := O_273
      refine jj_apd rfl ?_
      refine jj_iload C dL_law_540 rfl ?_
      refine jj_icmp_eqF (tgt := 547) C dL_law_542 (by decide) (by decide) ?_
      refine jj_iconst (v := 0) C dL_law_545 (by decide) ?_
      exfalso; have z0 := jc_nlt (a := (xs 1).toInt) (b := (0)) c_63 rfl (by decide); have z1 := jc_nle (a := (1)) (b := (xs 1).toInt) c_64 (by decide) rfl; have z2 := jc_nlt (a := (xs 2).toInt) (b := (1)) c_65 rfl (by decide); have z3 := jc_le (a := (xs 2).toInt) (b := (99999999)) c_66 rfl (by decide); have z4 := jc_leL (a := (xs 2).toInt) (b := (0)) c_67 (jc_z _) (by decide); have z5 := jc_nltL (a := (xs 1).toInt) (b := (0)) c_251 (Int32.toInt_toInt64 _) (by decide); have z6 := jc_nltL (a := (0)) (b := (xs 1).toInt) c_252 (by decide) (Int32.toInt_toInt64 _); have z7 := jc_nltL (a := (xs 2).toInt) (b := (1)) c_253 (Int32.toInt_toInt64 _) (by decide); have z8 := jc_ltL (a := (99999999)) (b := (xs 2).toInt) c_254 (by decide) (Int32.toInt_toInt64 _); omega
    · refine jj_apd rfl ?_
      refine jj_istore C dL_law_534 (by decide) rfl ?_
      refine jj_aload_n C dL_law_536 rfl ?_
      refine jq_callV (rest := []) C (ct_X11_thrown_6 hl D cA ak q_28 q_31 q_32 q_33 q_34 q_35 q_36 q_37 q_38 q_39 q_40 q_41 q_42) [24] [0, 1, 2, 3, 4, 5, 6, 7, 8, 9, 10, 11, 12, 13, 14, 15, 16, 17, 18, 19, 20, 21, 22, 23] rfl rfl (by decide) (by decide) (by decide) 0 rfl rfl rfl jw_993 jw_994 jw_995 jw_224 jw_992 jn_X11_thrown rfl (jj_le rfl) (jj_le rfl) (jj_le rfl) (jj_le rfl) (jj_le rfl) dL_law_537 rfl (fun _ _ hX => hX.elim) (fun w1 r O_275 => ?_)
      obtain ⟨rfl, rfl⟩ := O_275
      refine jj_apd rfl ?_
      refine jj_iload C dL_law_540 rfl ?_
      refine jj_icmp_eqF (tgt := 547) C dL_law_542 (by decide) (by decide) ?_
      refine jj_iconst (v := 0) C dL_law_545 (by decide) ?_
      exfalso; have z0 := jc_nlt (a := (xs 1).toInt) (b := (0)) c_63 rfl (by decide); have z1 := jc_nle (a := (1)) (b := (xs 1).toInt) c_64 (by decide) rfl; have z2 := jc_nlt (a := (xs 2).toInt) (b := (1)) c_65 rfl (by decide); have z3 := jc_le (a := (xs 2).toInt) (b := (99999999)) c_66 rfl (by decide); have z4 := jc_leL (a := (xs 2).toInt) (b := (0)) c_67 (jc_z _) (by decide); have z5 := jc_nltL (a := (xs 1).toInt) (b := (0)) c_255 (Int32.toInt_toInt64 _) (by decide); have z6 := jc_nltL (a := (0)) (b := (xs 1).toInt) c_256 (by decide) (Int32.toInt_toInt64 _); have z7 := jc_nltL (a := (xs 2).toInt) (b := (1)) c_257 (Int32.toInt_toInt64 _) (by decide); have z8 := jc_nltL (a := (99999999)) (b := (xs 2).toInt) c_258 (by decide) (Int32.toInt_toInt64 _); have z9 := jc_ltL (a := (0)) (b := (xs 2).toInt) c_259 (by decide) (jc_z _); omega
    · refine jj_apd rfl ?_
      refine jj_istore C dL_law_534 (by decide) rfl ?_
      refine jj_aload_n C dL_law_536 rfl ?_
      refine jq_callV (rest := []) C (ct_X11_thrown_5 hl D cA ak q_28 q_31 q_32 q_33 q_34 q_35 q_36 q_37 q_38 q_39 q_40 q_41 q_42) [23] [0, 1, 2, 3, 4, 5, 6, 7, 8, 9, 10, 11, 12, 13, 14, 15, 16, 17, 18, 19, 20, 21, 22, 24] rfl rfl (by decide) (by decide) (by decide) 0 rfl rfl rfl jw_993 jw_994 jw_995 jw_224 jw_992 jn_X11_thrown rfl (jj_le rfl) (jj_le rfl) (jj_le rfl) (jj_le rfl) (jj_le rfl) dL_law_537 rfl (fun _ _ hX => hX.elim) (fun w1 r O_277 => ?_)
      obtain ⟨rfl, rfl⟩ := O_277
      refine jj_apd rfl ?_
      refine jj_iload C dL_law_540 rfl ?_
      refine jj_icmp_eqT (tgt := 547) C dL_law_542 (by decide) (by decide) ?_
      refine jj_iload C dL_law_547 rfl ?_
      refine jj_if_neF (tgt := 564) C dL_law_549 (by decide) (by decide) ?_
      refine jj_aload_n C dL_law_552 rfl ?_
      refine jj_iconst (v := 0) C dL_law_553 (by decide) ?_
      refine jj_lald (v := 0) C 20 rfl (vp_in_iff.mpr (by decide)) rfl dL_law_554 ?_
      refine jj_iload C dL_law_555 rfl ?_
      refine jj_i2l (v := 0) C dL_law_557 (by decide) ?_
      refine jj_lcmp_eqT (tgt := 564) C dL_law_558 dL_law_559 (by decide) (by decide) ?_
      refine jj_goto (tgt := 2259) C dL_law_564 (by decide) ?_
      exact jj_loc [7, 2] rfl (jj_drop [] rfl (by decide) (jj_widen (k := 600006) (n := 7302072) (jj_le rfl) (jj_le rfl) hend))

