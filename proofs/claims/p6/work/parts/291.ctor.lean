theorem tt_els {f : Nat → Option Nat} {K K1 : Nat → Nat} {i q k : Nat} (hi : i < 2 ^ 31) (hx : tt_ex K K1) (hk : k ≠ 0) (hq : K1 q = k) (h : ∀ j : Nat, j < i → ∃ a : Nat, f j = some a ∧ K a = k) : ∀ j : Nat, j < i + 1 → ∃ a : Nat, va_up f (nI i).toNatClampNeg (some q) j = some a ∧ K1 a = k := by
  intro j hj
  rw [nI_clamp hi]
  by_cases h1 : j = i
  · subst h1; exact ⟨q, by rw [va_up_self], hq⟩
  · obtain ⟨a, h2, h3⟩ := h j (by omega)
    exact ⟨a, by rw [va_up_ne _ _ h1]; exact h2, hx.kd h3 hk⟩
theorem tt_elx {f : Nat → Option Nat} {K K1 : Nat → Nat} {i k : Nat} (hx : tt_ex K K1) (hk : k ≠ 0) (h : ∀ j : Nat, j < i → ∃ a : Nat, f j = some a ∧ K a = k) : ∀ j : Nat, j < i → ∃ a : Nat, f j = some a ∧ K1 a = k := by
  intro j hj
  obtain ⟨a, h2, h3⟩ := h j hj
  exact ⟨a, h2, hx.kd h3 hk⟩
theorem tt_elv {f : Nat → Option Nat} {K : Nat → Nat} {n k : Nat} {z u : Int} (hz : z.toNat = k) (h : ∀ j : Nat, j < n → ∃ a : Nat, f j = some a ∧ K a = k) : ∀ j : Nat, j < n → tt_V K (2, z, u) (va_rf (f j)) := by
  intro j hj
  obtain ⟨a, h2, h3⟩ := h j hj
  rw [h2]; exact tt_rv (h3.trans hz.symm)
section TP
variable {p : Program} {l : Launch} {e : Env} {R : Room} {s : State} {m : MethodId} {args : Array Value} {below : List Frame} {meth : Method} {c : Code}
variable {nL : Nat} {A : Nat → Prop} {Q : State → Prop} {cells slots pc : Nat} {lv : List (Nat × Value)} {st : List Value} {D : va_G} {X X2 pl : va_W}
theorem tt_perm (is : List Nat) (hs : jj_pk is X = some X2) (hn : va_nd is = true) (kk : jj_J p l e R s m args below meth c nL A Q (jj_X D A (X2 ++ pl)) cells slots pc lv st) : jj_J p l e R s m args below meth c nL A Q (jj_X D A (X ++ pl)) cells slots pc lv st :=
  fun H locs ls hW hS hl => kk H locs ls ⟨hW.1.part is (jj_pk_eq hs), hW.2.part is hn (jj_pk_eq hs)⟩ hS hl
end TP
theorem jw_0411bd6f90 : Cond.methodLink RX0 3 objectInit ∈ jj_G := jj_t1 (List.mem_of_getElem? (i := 76) (by decide +kernel)) rfl
theorem jw_2603678b77 : Cond.arrayClass .long ∈ jj_G := jj_t1 (List.mem_of_getElem? (i := 124) (by decide +kernel)) rfl
theorem jw_067135d01a : Cond.classLink RX0 46 RX8 ∈ jj_G := jj_t1 (List.mem_of_getElem? (i := 77) (by decide +kernel)) rfl
theorem jw_8382445808 : Cond.classLink RX0 52 RX4 ∈ jj_G := jj_t1 (List.mem_of_getElem? (i := 79) (by decide +kernel)) rfl
theorem jw_f318dfa091 : Cond.classLink RX0 58 RX6 ∈ jj_G := jj_t1 (List.mem_of_getElem? (i := 81) (by decide +kernel)) rfl
theorem jw_2960c7c093 : Cond.instantiable RX6 5 ∈ jj_G := jj_t1 (List.mem_of_getElem? (i := 170) (by decide +kernel)) rfl
theorem jw_25dd88fca9 : Cond.methodLink RX6 1 objectInit ∈ jj_G := jj_t1 (List.mem_of_getElem? (i := 174) (by decide +kernel)) rfl
theorem jw_4613c3c64b : Cond.code yX6_init cX6_init 1 none ∈ jj_G := jj_t1 (List.mem_of_getElem? (i := 173) (by decide +kernel)) rfl
theorem jw_38bbc6fe1e : Cond.instanceMethod yX6_init ∈ jj_G := jj_t1 (List.mem_of_getElem? (i := 172) (by decide +kernel)) rfl
theorem jn_X6_init : jj_N yX6_init 0 := by unfold jj_N; decide +kernel
theorem jw_d7f4a04220 : Cond.instantiable RX4 6 ∈ jj_G := jj_t1 (List.mem_of_getElem? (i := 125) (by decide +kernel)) rfl
theorem jw_a380a9f5c8 : Cond.methodLink RX4 1 objectInit ∈ jj_G := jj_t1 (List.mem_of_getElem? (i := 129) (by decide +kernel)) rfl
theorem jw_ad4ede2e69 : Cond.code yX4_init cX4_init 1 none ∈ jj_G := jj_t1 (List.mem_of_getElem? (i := 128) (by decide +kernel)) rfl
theorem jw_0b1f0df0b7 : Cond.instanceMethod yX4_init ∈ jj_G := jj_t1 (List.mem_of_getElem? (i := 127) (by decide +kernel)) rfl
theorem jn_X4_init : jj_N yX4_init 0 := by unfold jj_N; decide +kernel
theorem jw_e92b5de6be : Cond.instantiable RX8 5 ∈ jj_G := jj_t1 (List.mem_of_getElem? (i := 83) (by decide +kernel)) rfl
theorem jw_2a61311326 : Cond.methodLink RX8 3 objectInit ∈ jj_G := jj_t1 (List.mem_of_getElem? (i := 87) (by decide +kernel)) rfl
theorem jw_1f3116639f : Cond.code yX8_init cX8_init 1 none ∈ jj_G := jj_t1 (List.mem_of_getElem? (i := 86) (by decide +kernel)) rfl
theorem jw_830c0a026e : Cond.instanceMethod yX8_init ∈ jj_G := jj_t1 (List.mem_of_getElem? (i := 85) (by decide +kernel)) rfl
theorem jn_X8_init : jj_N yX8_init 0 := by unfold jj_N; decide +kernel
theorem jw_eb11a68063 : Cond.methodLink RX1 3 objectInit ∈ jj_G := jj_t2 (List.mem_of_getElem? (i := 55) (by decide +kernel)) rfl
theorem jw_419576c2a9 : Cond.classLink RX1 9 RX8 ∈ jj_G := jj_t2 (List.mem_of_getElem? (i := 56) (by decide +kernel)) rfl
theorem jw_8c193cec4d : Cond.code yX1_init cX1_init 2 none ∈ jj_G := jj_t2 (List.mem_of_getElem? (i := 54) (by decide +kernel)) rfl
theorem jw_673ba38874 : Cond.methodLink RX10 1 objectInit ∈ jj_G := jj_t1 (List.mem_of_getElem? (i := 32) (by decide +kernel)) rfl
theorem jw_69971c63bf : Cond.classLink RX10 7 RX9 ∈ jj_G := jj_t1 (List.mem_of_getElem? (i := 35) (by decide +kernel)) rfl
theorem jw_41cdf68743 : Cond.instantiable RX9 7 ∈ jj_G := jj_t1 (List.mem_of_getElem? (i := 36) (by decide +kernel)) rfl
theorem jw_5dd490fddf : Cond.methodLink RX9 3 objectInit ∈ jj_G := jj_t1 (List.mem_of_getElem? (i := 40) (by decide +kernel)) rfl
theorem jw_05249af37a : Cond.arrayClass .char ∈ jj_G := jj_t1 (List.mem_of_getElem? (i := 70) (by decide +kernel)) rfl
theorem jw_852aa59802 : Cond.code yX9_init cX9_init 1 none ∈ jj_G := jj_t1 (List.mem_of_getElem? (i := 39) (by decide +kernel)) rfl
theorem jw_33db4fb78a : Cond.instanceMethod yX9_init ∈ jj_G := jj_t1 (List.mem_of_getElem? (i := 38) (by decide +kernel)) rfl
theorem jn_X9_init : jj_N yX9_init 0 := by unfold jj_N; decide +kernel
theorem jw_d2ae92c12e : Cond.classLink RX10 33 RX1 ∈ jj_G := jj_t2 (List.mem_of_getElem? (i := 50) (by decide +kernel)) rfl
theorem jw_0b94b2a667 : Cond.instantiable RX1 6 ∈ jj_G := jj_t2 (List.mem_of_getElem? (i := 51) (by decide +kernel)) rfl
theorem jw_95010ec746 : Cond.methodLink RX10 35 yX1_init ∈ jj_G := jj_t2 (List.mem_of_getElem? (i := 52) (by decide +kernel)) rfl
theorem jw_f18773e5c7 : Cond.instanceMethod yX1_init ∈ jj_G := jj_t2 (List.mem_of_getElem? (i := 53) (by decide +kernel)) rfl
theorem jn_X1_init : jj_N yX1_init 0 := by unfold jj_N; decide +kernel
theorem jw_c610300d5c : Cond.classLink RX10 50 RX5 ∈ jj_G := jj_t2 (List.mem_of_getElem? (i := 78) (by decide +kernel)) rfl
theorem jw_dc986809e0 : Cond.instantiable RX5 3 ∈ jj_G := jj_t2 (List.mem_of_getElem? (i := 79) (by decide +kernel)) rfl
theorem jw_f190869a9b : Cond.methodLink RX5 3 objectInit ∈ jj_G := jj_t2 (List.mem_of_getElem? (i := 83) (by decide +kernel)) rfl
theorem jw_2871d6408a : Cond.arrayClass .byte ∈ jj_G := jj_t2 (List.mem_of_getElem? (i := 96) (by decide +kernel)) rfl
theorem jw_78484b6457 : Cond.code yX5_init cX5_init 1 none ∈ jj_G := jj_t2 (List.mem_of_getElem? (i := 82) (by decide +kernel)) rfl
theorem jw_75c9666450 : Cond.instanceMethod yX5_init ∈ jj_G := jj_t2 (List.mem_of_getElem? (i := 81) (by decide +kernel)) rfl
theorem jn_X5_init : jj_N yX5_init 0 := by unfold jj_N; decide +kernel
theorem jw_575d763d66 : Cond.code yX10_init cX10_init 1 none ∈ jj_G := jj_t1 (List.mem_of_getElem? (i := 31) (by decide +kernel)) rfl
set_option maxHeartbeats 4000000 in
set_option maxRecDepth 100000 in
theorem ct_X6_init_1 {l : Launch} (hl : l.stackTraces = false) (D : va_G) (cA : Nat → ClassId) (ak : (Nat → Nat) × (Nat → Nat)) (h0 : Nat) : jj_I l D cA ak yX6_init (.code yX6_init cX6_init 1 none) 1 12 0 0 [(h0, .inr (7, [.int 0, .int 0, .int 0, .long 0, .long 0]))] [.ref h0] (fun (w : va_W) (r : Option Value) => (w = [(h0, .inr (7, [.int 0, .int 0, .int 0, .long 0, .long 0]))] ∧ r = none)) := by
  refine jj_startI hl (by decide) jw_4613c3c64b (jj_le rfl) ?_
  intro p e s m args below meth c A hargs hA C hmn
  refine jj_aload_n C dX6_init_0 rfl ?_
  refine jj_objInit C jw_25dd88fca9 jw_449f795db0 jw_679af8422a (jj_le rfl) (jj_le rfl) dX6_init_1 ?_
  refine jj_aload_n C dX6_init_4 rfl ?_
  refine jj_iconst (v := 0) C dX6_init_5 (by decide) ?_
  refine jj_put C jk_7 0 (by decide) jw_ab602f01ec rfl 0 rfl rfl rfl rfl rfl dX6_init_6 ?_
  refine jj_aload_n C dX6_init_9 rfl ?_
  refine jj_iconst (v := 0) C dX6_init_10 (by decide) ?_
  refine jj_put C jk_7 1 (by decide) jw_7cf5a36917 rfl 0 rfl rfl rfl rfl rfl dX6_init_11 ?_
  refine jj_aload_n C dX6_init_14 rfl ?_
  refine jj_iconst (v := 0) C dX6_init_15 (by decide) ?_
  refine jj_put C jk_7 2 (by decide) jw_0e59eaf272 rfl 0 rfl rfl rfl rfl rfl dX6_init_16 ?_
  refine jj_aload_n C dX6_init_19 rfl ?_
  refine jj_lconst (v := 0) C dX6_init_20 (by decide) ?_
  refine jj_put C jk_7 3 (by decide) jw_7a5d14dc09 rfl 0 rfl rfl rfl rfl rfl dX6_init_21 ?_
  refine jj_aload_n C dX6_init_24 rfl ?_
  refine jj_lconst (v := 0) C dX6_init_25 (by decide) ?_
  refine jj_put C jk_7 4 (by decide) jw_7941f64051 rfl 0 rfl rfl rfl rfl rfl dX6_init_26 ?_
  exact jj_vretI C ⟨rfl, rfl⟩ dX6_init_29 (jj_le rfl) (jj_le rfl)

set_option maxHeartbeats 4000000 in
set_option maxRecDepth 100000 in
theorem ct_X4_init_1 {l : Launch} (hl : l.stackTraces = false) (D : va_G) (cA : Nat → ClassId) (ak : (Nat → Nat) × (Nat → Nat)) (h0 : Nat) : jj_I l D cA ak yX4_init (.code yX4_init cX4_init 1 none) 1 12 0 0 [(h0, .inr (5, [.int 0, .int 0, .int 0, .long 0, .long 0, .long 0]))] [.ref h0] (fun (w : va_W) (r : Option Value) => (w = [(h0, .inr (5, [.int 0, .int 0, .int 0, .long 0, .long 0, .long 0]))] ∧ r = none)) := by
  refine jj_startI hl (by decide) jw_ad4ede2e69 (jj_le rfl) ?_
  intro p e s m args below meth c A hargs hA C hmn
  refine jj_aload_n C dX4_init_0 rfl ?_
  refine jj_objInit C jw_a380a9f5c8 jw_449f795db0 jw_679af8422a (jj_le rfl) (jj_le rfl) dX4_init_1 ?_
  refine jj_aload_n C dX4_init_4 rfl ?_
  refine jj_iconst (v := 0) C dX4_init_5 (by decide) ?_
  refine jj_put C jk_5 0 (by decide) jw_1bb0e54621 rfl 0 rfl rfl rfl rfl rfl dX4_init_6 ?_
  refine jj_aload_n C dX4_init_9 rfl ?_
  refine jj_iconst (v := 0) C dX4_init_10 (by decide) ?_
  refine jj_put C jk_5 1 (by decide) jw_976779c271 rfl 0 rfl rfl rfl rfl rfl dX4_init_11 ?_
  refine jj_aload_n C dX4_init_14 rfl ?_
  refine jj_iconst (v := 0) C dX4_init_15 (by decide) ?_
  refine jj_put C jk_5 2 (by decide) jw_2fcb3f5de7 rfl 0 rfl rfl rfl rfl rfl dX4_init_16 ?_
  refine jj_aload_n C dX4_init_19 rfl ?_
  refine jj_lconst (v := 0) C dX4_init_20 (by decide) ?_
  refine jj_put C jk_5 3 (by decide) jw_45db99320d rfl 0 rfl rfl rfl rfl rfl dX4_init_21 ?_
  refine jj_aload_n C dX4_init_24 rfl ?_
  refine jj_lconst (v := 0) C dX4_init_25 (by decide) ?_
  refine jj_put C jk_5 4 (by decide) jw_ad4dde1162 rfl 0 rfl rfl rfl rfl rfl dX4_init_26 ?_
  refine jj_aload_n C dX4_init_29 rfl ?_
  refine jj_lconst (v := 0) C dX4_init_30 (by decide) ?_
  refine jj_put C jk_5 5 (by decide) jw_c6a8dac0f8 rfl 0 rfl rfl rfl rfl rfl dX4_init_31 ?_
  exact jj_vretI C ⟨rfl, rfl⟩ dX4_init_34 (jj_le rfl) (jj_le rfl)

set_option maxHeartbeats 4000000 in
set_option maxRecDepth 100000 in
theorem ct_X8_init_1 {l : Launch} (hl : l.stackTraces = false) (D : va_G) (cA : Nat → ClassId) (ak : (Nat → Nat) × (Nat → Nat)) (h0 : Nat) : jj_I l D cA ak yX8_init (.code yX8_init cX8_init 1 none) 1 12 0 0 [(h0, .inr (9, [.int 0, .int 0, .long 0, .long 0, .long 0]))] [.ref h0] (fun (w : va_W) (r : Option Value) => (w = [(h0, .inr (9, [.int 0, .int 0, .long 0, .long 0, .long 1000000]))] ∧ r = none)) := by
  refine jj_startI hl (by decide) jw_1f3116639f (jj_le rfl) ?_
  intro p e s m args below meth c A hargs hA C hmn
  refine jj_aload_n C dX8_init_0 rfl ?_
  refine jj_objInit C jw_2a61311326 jw_449f795db0 jw_679af8422a (jj_le rfl) (jj_le rfl) dX8_init_1 ?_
  refine jj_aload_n C dX8_init_4 rfl ?_
  refine jj_iconst (v := 0) C dX8_init_5 (by decide) ?_
  refine jj_put C jk_9 0 (by decide) jw_91bc8df070 rfl 0 rfl rfl rfl rfl rfl dX8_init_6 ?_
  refine jj_aload_n C dX8_init_9 rfl ?_
  refine jj_iconst (v := 0) C dX8_init_10 (by decide) ?_
  refine jj_put C jk_9 1 (by decide) jw_9aacc2e946 rfl 0 rfl rfl rfl rfl rfl dX8_init_11 ?_
  refine jj_aload_n C dX8_init_14 rfl ?_
  refine jj_lconst (v := 0) C dX8_init_15 (by decide) ?_
  refine jj_put C jk_9 2 (by decide) jw_589ef22e6e rfl 0 rfl rfl rfl rfl rfl dX8_init_16 ?_
  refine jj_aload_n C dX8_init_19 rfl ?_
  refine jj_lconst (v := 0) C dX8_init_20 (by decide) ?_
  refine jj_put C jk_9 3 (by decide) jw_dade208d77 rfl 0 rfl rfl rfl rfl rfl dX8_init_21 ?_
  refine jj_aload_n C dX8_init_24 rfl ?_
  refine jj_ldc2 (v := 1000000) C dX8_init_25 jw_6861b3b77c ?_
  refine jj_put C jk_9 4 (by decide) jw_e3193c06db rfl 0 rfl rfl rfl rfl rfl dX8_init_28 ?_
  exact jj_vretI C ⟨rfl, rfl⟩ dX8_init_31 (jj_le rfl) (jj_le rfl)

set_option maxHeartbeats 4000000 in
set_option maxRecDepth 100000 in
theorem ct_X9_init_1 {l : Launch} (hl : l.stackTraces = false) (D : va_G) (cA : Nat → ClassId) (ak : (Nat → Nat) × (Nat → Nat)) (h0 : Nat) : jj_I l D cA ak yX9_init (.code yX9_init cX9_init 1 none) 1 12 1 400 [(h0, .inr (10, [.null, .int 0, .int 0, .int 0, .int 0, .int 0, .int 0]))] [.ref h0] (fun (w : va_W) (r : Option Value) => (∃ q_1 : Nat, w = [(h0, .inr (10, [.ref q_1, .int 0, .int 0, .int 0, .int 0, .int 0, .int (-1)])), (q_1, .inl (cA 1, 400, .inl (fun _ => 0)))] ∧ r = none)) := by
  refine jj_startI hl (by decide) jw_852aa59802 (jj_le rfl) ?_
  intro p e s m args below meth c A hargs hA C hmn
  refine jj_aload_n C dX9_init_0 rfl ?_
  refine jj_objInit C jw_5dd490fddf jw_449f795db0 jw_679af8422a (jj_le rfl) (jj_le rfl) dX9_init_1 ?_
  refine jj_aload_n C dX9_init_4 rfl ?_
  refine jj_sipush (v := 400) C dX9_init_5 (by decide) ?_
  refine jj_newa (atype := .char) (fty := .char) (N' := 400) C 1 rfl rfl jw_05249af37a (a0 := (400, .inl (fun _ => 0))) (fun _ => rfl) (by decide) (by decide) (jj_le rfl) (jj_le rfl) (jj_le rfl) dX9_init_8 (fun q_1 => ?_)
  refine jj_apd rfl ?_
  refine jj_putF C jk_10 0 (by decide) jw_0664e1e086 rfl hmn rfl 0 rfl rfl rfl rfl rfl dX9_init_10 ?_
  refine jj_aload_n C dX9_init_13 rfl ?_
  refine jj_iconst (v := 0) C dX9_init_14 (by decide) ?_
  refine jj_put C jk_10 1 (by decide) jw_133bcadae3 rfl 0 rfl rfl rfl rfl rfl dX9_init_15 ?_
  refine jj_aload_n C dX9_init_18 rfl ?_
  refine jj_iconst (v := 0) C dX9_init_19 (by decide) ?_
  refine jj_put C jk_10 2 (by decide) jw_bc3c1a7c51 rfl 0 rfl rfl rfl rfl rfl dX9_init_20 ?_
  refine jj_aload_n C dX9_init_23 rfl ?_
  refine jj_iconst (v := 0) C dX9_init_24 (by decide) ?_
  refine jj_put C jk_10 3 (by decide) jw_f99bd0ca2b rfl 0 rfl rfl rfl rfl rfl dX9_init_25 ?_
  refine jj_aload_n C dX9_init_28 rfl ?_
  refine jj_iconst (v := 0) C dX9_init_29 (by decide) ?_
  refine jj_put C jk_10 4 (by decide) jw_66bda6962a rfl 0 rfl rfl rfl rfl rfl dX9_init_30 ?_
  refine jj_aload_n C dX9_init_33 rfl ?_
  refine jj_iconst (v := 0) C dX9_init_34 (by decide) ?_
  refine jj_put C jk_10 5 (by decide) jw_bde5c0d1a5 rfl 0 rfl rfl rfl rfl rfl dX9_init_35 ?_
  refine jj_aload_n C dX9_init_38 rfl ?_
  refine jj_iconst (v := (-1)) C dX9_init_39 (by decide) ?_
  refine jj_put C jk_10 6 (by decide) jw_f32ea1979e rfl 0 rfl rfl rfl rfl rfl dX9_init_40 ?_
  exact jj_vretI C ⟨q_1, rfl, rfl⟩ dX9_init_43 (jj_le rfl) (jj_le rfl)

set_option maxHeartbeats 4000000 in
set_option maxRecDepth 100000 in
theorem ct_X5_init_1 {l : Launch} (hl : l.stackTraces = false) (D : va_G) (cA : Nat → ClassId) (ak : (Nat → Nat) × (Nat → Nat)) (h0 : Nat) : jj_I l D cA ak yX5_init (.code yX5_init cX5_init 1 none) 1 12 2 1320 [(h0, .inr (6, [.null, .int 0, .null]))] [.ref h0] (fun (w : va_W) (r : Option Value) => (∃ q_1 q_2 : Nat, w = [(h0, .inr (6, [.ref q_1, .int 0, .ref q_2])), (q_1, .inl (cA 0, 1300, .inl (fun _ => 0))), (q_2, .inl (cA 0, 20, .inl (fun _ => 0)))] ∧ r = none)) := by
  refine jj_startI hl (by decide) jw_78484b6457 (jj_le rfl) ?_
  intro p e s m args below meth c A hargs hA C hmn
  refine jj_aload_n C dX5_init_0 rfl ?_
  refine jj_objInit C jw_f190869a9b jw_449f795db0 jw_679af8422a (jj_le rfl) (jj_le rfl) dX5_init_1 ?_
  refine jj_aload_n C dX5_init_4 rfl ?_
  refine jj_sipush (v := 1300) C dX5_init_5 (by decide) ?_
  refine jj_newa (atype := .byte) (fty := .byte) (N' := 1300) C 0 rfl rfl jw_2871d6408a (a0 := (1300, .inl (fun _ => 0))) (fun _ => rfl) (by decide) (by decide) (jj_le rfl) (jj_le rfl) (jj_le rfl) dX5_init_8 (fun q_1 => ?_)
  refine jj_apd rfl ?_
  refine jj_putF C jk_6 0 (by decide) jw_b2cc65244f rfl hmn rfl 0 rfl rfl rfl rfl rfl dX5_init_10 ?_
  refine jj_aload_n C dX5_init_13 rfl ?_
  refine jj_iconst (v := 0) C dX5_init_14 (by decide) ?_
  refine jj_put C jk_6 1 (by decide) jw_a08fdff3bb rfl 0 rfl rfl rfl rfl rfl dX5_init_15 ?_
  refine jj_aload_n C dX5_init_18 rfl ?_
  refine jj_bipush (v := 20) C dX5_init_19 (by decide) ?_
  refine jj_newa (atype := .byte) (fty := .byte) (N' := 20) C 0 rfl rfl jw_2871d6408a (a0 := (20, .inl (fun _ => 0))) (fun _ => rfl) (by decide) (by decide) (jj_le rfl) (jj_le rfl) (jj_le rfl) dX5_init_21 (fun q_2 => ?_)
  refine jj_apd rfl ?_
  refine jj_putF C jk_6 2 (by decide) jw_7b666017dd rfl hmn rfl 0 rfl rfl rfl rfl rfl dX5_init_23 ?_
  exact jj_vretI C ⟨q_1, q_2, rfl, rfl⟩ dX5_init_26 (jj_le rfl) (jj_le rfl)

set_option maxHeartbeats 4000000 in
set_option maxRecDepth 100000 in
theorem tc_X0_init {l : Launch} (hl : l.stackTraces = false) (D : va_G) (cA : Nat → ClassId) (ak : (Nat → Nat) × (Nat → Nat)) (h0 : Nat) : jj_I l D cA ak yX0_init (.code yX0_init cX0_init 2 none) 2 32 62 394 [(h0, .inr (2, [.int 0, .int 0, .int 0, .int 0, .int 0, .int 0, .int 0, .int 0, .int 0, .int 0, .null, .null, .null, .null]))] [.ref h0] (fun (w : va_W) (r : Option Value) => r = none ∧ ∃ Kn : Nat → Nat, Kn h0 = 1 ∧ tt_ok tt_tk cA Kn w) := by
  refine jj_startI hl (by decide) jw_b958fb03a7 (jj_le rfl) ?_
  intro p e s m args below meth c A hargs hA C hmn
  refine jj_aload_n C dX0_init_0 rfl ?_
  refine jj_objInit C jw_0411bd6f90 jw_449f795db0 jw_679af8422a (jj_le rfl) (jj_le rfl) dX0_init_1 ?_
  refine jj_aload_n C dX0_init_4 rfl ?_
  refine jj_iconst (v := 1) C dX0_init_5 (by decide) ?_
  refine jj_put C jk_2 0 (by decide) jw_cbdbdaad27 rfl 0 rfl rfl rfl rfl rfl dX0_init_6 ?_
  refine jj_aload_n C dX0_init_9 rfl ?_
  refine jj_iconst (v := 0) C dX0_init_10 (by decide) ?_
  refine jj_put C jk_2 1 (by decide) jw_4c8a2fbb77 rfl 0 rfl rfl rfl rfl rfl dX0_init_11 ?_
  refine jj_aload_n C dX0_init_14 rfl ?_
  refine jj_iconst (v := 0) C dX0_init_15 (by decide) ?_
  refine jj_put C jk_2 2 (by decide) jw_950abe33c4 rfl 0 rfl rfl rfl rfl rfl dX0_init_16 ?_
  refine jj_aload_n C dX0_init_19 rfl ?_
  refine jj_iconst (v := 0) C dX0_init_20 (by decide) ?_
  refine jj_put C jk_2 3 (by decide) jw_d83bb35855 rfl 0 rfl rfl rfl rfl rfl dX0_init_21 ?_
  refine jj_aload_n C dX0_init_24 rfl ?_
  refine jj_bipush (v := 100) C dX0_init_25 (by decide) ?_
  refine jj_put C jk_2 4 (by decide) jw_458b0311a8 rfl 0 rfl rfl rfl rfl rfl dX0_init_27 ?_
  refine jj_aload_n C dX0_init_30 rfl ?_
  refine jj_iconst (v := 0) C dX0_init_31 (by decide) ?_
  refine jj_put C jk_2 5 (by decide) jw_cd8f4320e7 rfl 0 rfl rfl rfl rfl rfl dX0_init_32 ?_
  refine jj_aload_n C dX0_init_35 rfl ?_
  refine jj_iconst (v := 0) C dX0_init_36 (by decide) ?_
  refine jj_put C jk_2 6 (by decide) jw_cb51088522 rfl 0 rfl rfl rfl rfl rfl dX0_init_37 ?_
  refine jj_aload_n C dX0_init_40 rfl ?_
  refine jj_iconst (v := 0) C dX0_init_41 (by decide) ?_
  refine jj_put C jk_2 7 (by decide) jw_4839b30b4b rfl 0 rfl rfl rfl rfl rfl dX0_init_42 ?_
  refine jj_aload_n C dX0_init_45 rfl ?_
  refine jj_iconst (v := 0) C dX0_init_46 (by decide) ?_
  refine jj_put C jk_2 8 (by decide) jw_9d0ccd4490 rfl 0 rfl rfl rfl rfl rfl dX0_init_47 ?_
  refine jj_aload_n C dX0_init_50 rfl ?_
  refine jj_iconst (v := 0) C dX0_init_51 (by decide) ?_
  refine jj_put C jk_2 9 (by decide) jw_a6a6052378 rfl 0 rfl rfl rfl rfl rfl dX0_init_52 ?_
  refine jj_aload_n C dX0_init_55 rfl ?_
  refine jj_bipush (v := 6) C dX0_init_56 (by decide) ?_
  refine jj_newa (atype := .long) (fty := .long) (N' := 6) C 2 rfl rfl jw_2603678b77 (a0 := (6, .inr (.inl (fun _ => 0)))) (fun _ => rfl) (by decide) (by decide) (jj_le rfl) (jj_le rfl) (jj_le rfl) dX0_init_58 (fun q_1 => ?_)
  refine jj_apd rfl ?_
  refine jj_putF C jk_2 10 (by decide) jw_10b3e82d95 rfl hmn rfl 0 rfl rfl rfl rfl rfl dX0_init_60 ?_
  refine jj_aload_n C dX0_init_63 rfl ?_
  refine jj_bipush (v := 6) C dX0_init_64 (by decide) ?_
  refine jj_newq (N' := 6) C 8 rfl jw_067135d01a (by decide) (by decide) (by decide) (jj_le rfl) (jj_le rfl) (jj_le rfl) dX0_init_66 (fun q_2 => ?_)
  refine jj_apd rfl ?_
  refine jj_putF C jk_2 11 (by decide) jw_b81d81495e rfl hmn rfl 0 rfl rfl rfl rfl rfl dX0_init_69 ?_
  refine jj_aload_n C dX0_init_72 rfl ?_
  refine jj_bipush (v := 40) C dX0_init_73 (by decide) ?_
  refine jj_newq (N' := 40) C 6 rfl jw_8382445808 (by decide) (by decide) (by decide) (jj_le rfl) (jj_le rfl) (jj_le rfl) dX0_init_75 (fun q_3 => ?_)
  refine jj_apd rfl ?_
  refine jj_putF C jk_2 12 (by decide) jw_5f730213e9 rfl hmn rfl 0 rfl rfl rfl rfl rfl dX0_init_78 ?_
  refine jj_aload_n C dX0_init_81 rfl ?_
  refine jj_bipush (v := 12) C dX0_init_82 (by decide) ?_
  refine jj_newq (N' := 12) C 7 rfl jw_f318dfa091 (by decide) (by decide) (by decide) (jj_le rfl) (jj_le rfl) (jj_le rfl) dX0_init_84 (fun q_4 => ?_)
  refine jj_apd rfl ?_
  refine jj_putF C jk_2 13 (by decide) jw_241b9bc751 rfl hmn rfl 0 rfl rfl rfl rfl rfl dX0_init_87 ?_
  refine jj_iconst (v := 0) C dX0_init_90 (by decide) ?_
  refine jj_istore_n C dX0_init_91 (by decide) rfl ?_
  have hL1 : ∀ (n i : Nat) (f_s : Nat → Option Nat) (K : Nat → Nat) (pl : va_W), i + n = 6 → tt_ok tt_tk cA K pl → (∀ j : Nat, j < i → ∃ a : Nat, f_s j = some a ∧ K a = 2) → jj_J p l e (jj_rm 2 32 62 394) s m args below meth c 2 A (MQ below (jj_q D A (fun (w : va_W) (r : Option Value) => r = none ∧ ∃ Kn : Nat → Nat, Kn h0 = 1 ∧ tt_ok tt_tk cA Kn w)) args s 62 394 A) (jj_X D A ([(h0, .inr (2, [.int 1, .int 0, .int 0, .int 0, .int 100, .int 0, .int 0, .int 0, .int 0, .int 0, .ref q_1, .ref q_2, .ref q_3, .ref q_4])), (q_1, .inl (cA 2, 6, .inr (.inl (fun _ => 0)))), (q_2, .inl (cA 8, 6, .inr (.inr (.inr (.inr f_s))))), (q_3, .inl (cA 6, 40, .inr (.inr (.inr (.inr (fun _ => none)))))), (q_4, .inl (cA 7, 12, .inr (.inr (.inr (.inr (fun _ => none))))))] ++ pl)) (4 + 1 * i) (64 + 5 * i) 92 [(1, .int (nI i)), (0, .ref h0)] [] := by
    intro n
    induction n with
    | zero =>
      intro i f_s K pl hin hok h_s
      obtain rfl : i = 6 := by omega
      show jj_J p l e (jj_rm 2 32 62 394) s m args below meth c 2 A (MQ below (jj_q D A (fun (w : va_W) (r : Option Value) => r = none ∧ ∃ Kn : Nat → Nat, Kn h0 = 1 ∧ tt_ok tt_tk cA Kn w)) args s 62 394 A) (jj_X D A ([(h0, .inr (2, [.int 1, .int 0, .int 0, .int 0, .int 100, .int 0, .int 0, .int 0, .int 0, .int 0, .ref q_1, .ref q_2, .ref q_3, .ref q_4])), (q_1, .inl (cA 2, 6, .inr (.inl (fun _ => 0)))), (q_2, .inl (cA 8, 6, .inr (.inr (.inr (.inr f_s))))), (q_3, .inl (cA 6, 40, .inr (.inr (.inr (.inr (fun _ => none)))))), (q_4, .inl (cA 7, 12, .inr (.inr (.inr (.inr (fun _ => none))))))] ++ pl)) 10 94 92 [(1, .int 6), (0, .ref h0)] []
      refine jj_iload_n C dX0_init_92 rfl ?_
      refine jj_bipush (v := 6) C dX0_init_93 (by decide) ?_
      refine jj_icmp_geT (tgt := 117) C dX0_init_95 (by decide) (by decide) ?_
      refine jj_iconst (v := 0) C dX0_init_117 (by decide) ?_
      refine jj_istore_n C dX0_init_118 (by decide) rfl ?_
      have hL2 : ∀ (n i : Nat) (f_l : Nat → Option Nat) (K : Nat → Nat) (pl : va_W), i + n = 40 → tt_ok tt_tk cA K pl → (∀ j : Nat, j < i → ∃ a : Nat, f_l j = some a ∧ K a = 3) → (∀ j : Nat, j < 6 → ∃ a : Nat, f_s j = some a ∧ K a = 2) → jj_J p l e (jj_rm 2 32 62 394) s m args below meth c 2 A (MQ below (jj_q D A (fun (w : va_W) (r : Option Value) => r = none ∧ ∃ Kn : Nat → Nat, Kn h0 = 1 ∧ tt_ok tt_tk cA Kn w)) args s 62 394 A) (jj_X D A ([(h0, .inr (2, [.int 1, .int 0, .int 0, .int 0, .int 100, .int 0, .int 0, .int 0, .int 0, .int 0, .ref q_1, .ref q_2, .ref q_3, .ref q_4])), (q_1, .inl (cA 2, 6, .inr (.inl (fun _ => 0)))), (q_2, .inl (cA 8, 6, .inr (.inr (.inr (.inr f_s))))), (q_3, .inl (cA 6, 40, .inr (.inr (.inr (.inr f_l))))), (q_4, .inl (cA 7, 12, .inr (.inr (.inr (.inr (fun _ => none))))))] ++ pl)) (10 + 1 * i) (94 + 6 * i) 119 [(1, .int (nI i)), (0, .ref h0)] [] := by
        intro n
        induction n with
        | zero =>
          intro i f_l K pl hin hok h_l h_s
          obtain rfl : i = 40 := by omega
          show jj_J p l e (jj_rm 2 32 62 394) s m args below meth c 2 A (MQ below (jj_q D A (fun (w : va_W) (r : Option Value) => r = none ∧ ∃ Kn : Nat → Nat, Kn h0 = 1 ∧ tt_ok tt_tk cA Kn w)) args s 62 394 A) (jj_X D A ([(h0, .inr (2, [.int 1, .int 0, .int 0, .int 0, .int 100, .int 0, .int 0, .int 0, .int 0, .int 0, .ref q_1, .ref q_2, .ref q_3, .ref q_4])), (q_1, .inl (cA 2, 6, .inr (.inl (fun _ => 0)))), (q_2, .inl (cA 8, 6, .inr (.inr (.inr (.inr f_s))))), (q_3, .inl (cA 6, 40, .inr (.inr (.inr (.inr f_l))))), (q_4, .inl (cA 7, 12, .inr (.inr (.inr (.inr (fun _ => none))))))] ++ pl)) 50 334 119 [(1, .int 40), (0, .ref h0)] []
          refine jj_iload_n C dX0_init_119 rfl ?_
          refine jj_bipush (v := 40) C dX0_init_120 (by decide) ?_
          refine jj_icmp_geT (tgt := 144) C dX0_init_122 (by decide) (by decide) ?_
          refine jj_iconst (v := 0) C dX0_init_144 (by decide) ?_
          refine jj_istore_n C dX0_init_145 (by decide) rfl ?_
          have hL3 : ∀ (n i : Nat) (f_r : Nat → Option Nat) (K : Nat → Nat) (pl : va_W), i + n = 12 → tt_ok tt_tk cA K pl → (∀ j : Nat, j < i → ∃ a : Nat, f_r j = some a ∧ K a = 4) → (∀ j : Nat, j < 6 → ∃ a : Nat, f_s j = some a ∧ K a = 2) → (∀ j : Nat, j < 40 → ∃ a : Nat, f_l j = some a ∧ K a = 3) → jj_J p l e (jj_rm 2 32 62 394) s m args below meth c 2 A (MQ below (jj_q D A (fun (w : va_W) (r : Option Value) => r = none ∧ ∃ Kn : Nat → Nat, Kn h0 = 1 ∧ tt_ok tt_tk cA Kn w)) args s 62 394 A) (jj_X D A ([(h0, .inr (2, [.int 1, .int 0, .int 0, .int 0, .int 100, .int 0, .int 0, .int 0, .int 0, .int 0, .ref q_1, .ref q_2, .ref q_3, .ref q_4])), (q_1, .inl (cA 2, 6, .inr (.inl (fun _ => 0)))), (q_2, .inl (cA 8, 6, .inr (.inr (.inr (.inr f_s))))), (q_3, .inl (cA 6, 40, .inr (.inr (.inr (.inr f_l))))), (q_4, .inl (cA 7, 12, .inr (.inr (.inr (.inr f_r)))))] ++ pl)) (50 + 1 * i) (334 + 5 * i) 146 [(1, .int (nI i)), (0, .ref h0)] [] := by
            intro n
            induction n with
            | zero =>
              intro i f_r K pl hin hok h_r h_s h_l
              obtain rfl : i = 12 := by omega
              show jj_J p l e (jj_rm 2 32 62 394) s m args below meth c 2 A (MQ below (jj_q D A (fun (w : va_W) (r : Option Value) => r = none ∧ ∃ Kn : Nat → Nat, Kn h0 = 1 ∧ tt_ok tt_tk cA Kn w)) args s 62 394 A) (jj_X D A ([(h0, .inr (2, [.int 1, .int 0, .int 0, .int 0, .int 100, .int 0, .int 0, .int 0, .int 0, .int 0, .ref q_1, .ref q_2, .ref q_3, .ref q_4])), (q_1, .inl (cA 2, 6, .inr (.inl (fun _ => 0)))), (q_2, .inl (cA 8, 6, .inr (.inr (.inr (.inr f_s))))), (q_3, .inl (cA 6, 40, .inr (.inr (.inr (.inr f_l))))), (q_4, .inl (cA 7, 12, .inr (.inr (.inr (.inr f_r)))))] ++ pl)) 62 394 146 [(1, .int 12), (0, .ref h0)] []
              refine jj_iload_n C dX0_init_146 rfl ?_
              refine jj_bipush (v := 12) C dX0_init_147 (by decide) ?_
              refine jj_icmp_geT (tgt := 171) C dX0_init_149 (by decide) (by decide) ?_
              show jj_J p l e (jj_rm 2 32 62 394) s m args below meth c 2 A (MQ below (jj_q D A (fun (w : va_W) (r : Option Value) => r = none ∧ ∃ Kn : Nat → Nat, Kn h0 = 1 ∧ tt_ok tt_tk cA Kn w)) args s 62 394 A) (jj_X D A ([(h0, .inr (2, [.int 1, .int 0, .int 0, .int 0, .int 100, .int 0, .int 0, .int 0, .int 0, .int 0, .ref q_1, .ref q_2, .ref q_3, .ref q_4])), (q_1, .inl (cA 2, 6, .inr (.inl (fun _ => 0)))), (q_2, .inl (cA 8, 6, .inr (.inr (.inr (.inr f_s))))), (q_3, .inl (cA 6, 40, .inr (.inr (.inr (.inr f_l))))), (q_4, .inl (cA 7, 12, .inr (.inr (.inr (.inr f_r)))))] ++ pl)) _ _ 171 [(1, .int 12), (0, .ref h0)] []
              refine tt_perm [0, 4, 3, 2, 1] rfl (by decide) ?_
              refine tt_prom (k := 5) [(h0, .inr (2, [.int 1, .int 0, .int 0, .int 0, .int 100, .int 0, .int 0, .int 0, .int 0, .int 0, .ref q_1, .ref q_2, .ref q_3, .ref q_4])), (q_4, .inl (cA 7, 12, .inr (.inr (.inr (.inr f_r))))), (q_3, .inl (cA 6, 40, .inr (.inr (.inr (.inr f_l))))), (q_2, .inl (cA 8, 6, .inr (.inr (.inr (.inr f_s)))))] rfl hok (fun K1 hx1 hq1 => tt_El (t := (1, (-9223372036854775808), 9223372036854775807)) rfl (fun j _ => tt_ja _)) (fun K1 pl1 hok1 hx1 hq1 tr1 at1 => ?_)
              have y1_q_2 := tt_elx hx1 (by decide) h_s
              have y1_q_3 := tt_elx hx1 (by decide) h_l
              have y1_q_4 := tt_elx hx1 (by decide) h_r
              have hok := hok1
              refine tt_prom (k := 6) [(h0, .inr (2, [.int 1, .int 0, .int 0, .int 0, .int 100, .int 0, .int 0, .int 0, .int 0, .int 0, .ref q_1, .ref q_2, .ref q_3, .ref q_4])), (q_4, .inl (cA 7, 12, .inr (.inr (.inr (.inr f_r))))), (q_3, .inl (cA 6, 40, .inr (.inr (.inr (.inr f_l)))))] rfl hok (fun K1 hx2 hq2 => tt_Eq (t := (2, 2, 0)) rfl (tt_elv rfl (tt_elx hx2 (by decide) y1_q_2))) (fun K1 pl1 hok1 hx2 hq2 tr2 at2 => ?_)
              have z2_q_1 := hx2.kd hq1 (by decide)
              have y2_q_2 := tt_elx hx2 (by decide) y1_q_2
              have y2_q_3 := tt_elx hx2 (by decide) y1_q_3
              have y2_q_4 := tt_elx hx2 (by decide) y1_q_4
              have hok := hok1
              refine tt_prom (k := 7) [(h0, .inr (2, [.int 1, .int 0, .int 0, .int 0, .int 100, .int 0, .int 0, .int 0, .int 0, .int 0, .ref q_1, .ref q_2, .ref q_3, .ref q_4])), (q_4, .inl (cA 7, 12, .inr (.inr (.inr (.inr f_r)))))] rfl hok (fun K1 hx3 hq3 => tt_Eq (t := (2, 3, 0)) rfl (tt_elv rfl (tt_elx hx3 (by decide) y2_q_3))) (fun K1 pl1 hok1 hx3 hq3 tr3 at3 => ?_)
              have z3_q_1 := hx3.kd z2_q_1 (by decide)
              have z3_q_2 := hx3.kd hq2 (by decide)
              have y3_q_2 := tt_elx hx3 (by decide) y2_q_2
              have y3_q_3 := tt_elx hx3 (by decide) y2_q_3
              have y3_q_4 := tt_elx hx3 (by decide) y2_q_4
              have hok := hok1
              refine tt_prom (k := 8) [(h0, .inr (2, [.int 1, .int 0, .int 0, .int 0, .int 100, .int 0, .int 0, .int 0, .int 0, .int 0, .ref q_1, .ref q_2, .ref q_3, .ref q_4]))] rfl hok (fun K1 hx4 hq4 => tt_Eq (t := (2, 4, 0)) rfl (tt_elv rfl (tt_elx hx4 (by decide) y3_q_4))) (fun K1 pl1 hok1 hx4 hq4 tr4 at4 => ?_)
              have z4_q_1 := hx4.kd z3_q_1 (by decide)
              have z4_q_2 := hx4.kd z3_q_2 (by decide)
              have z4_q_3 := hx4.kd hq3 (by decide)
              have y4_q_2 := tt_elx hx4 (by decide) y3_q_2
              have y4_q_3 := tt_elx hx4 (by decide) y3_q_3
              have y4_q_4 := tt_elx hx4 (by decide) y3_q_4
              have hok := hok1
              refine tt_prom (k := 1) [] rfl hok (fun K1 hx5 hq5 => tt_Eo (fts := [(0, (-2147483648), 2147483647), (0, (-2147483648), 2147483647), (0, (-2147483648), 2147483647), (0, (-2147483648), 2147483647), (0, (-2147483648), 2147483647), (0, (-2147483648), 2147483647), (0, (-2147483648), 2147483647), (0, 0, 6), (0, 0, 40), (0, 0, 12), (2, 5, 0), (2, 6, 0), (2, 7, 0), (2, 8, 0)]) rfl ⟨tt_ia _, tt_ia _, tt_ia _, tt_ia _, tt_ia _, tt_ia _, tt_ia _, tt_iv (by decide) (by decide), tt_iv (by decide) (by decide), tt_iv (by decide) (by decide), tt_rv (hx5.kd z4_q_1 (by decide)), tt_rv (hx5.kd z4_q_2 (by decide)), tt_rv (hx5.kd z4_q_3 (by decide)), tt_rv (hx5.kd hq4 (by decide)), trivial⟩) (fun K1 pl1 hok1 hx5 hq5 tr5 at5 => ?_)
              have z5_q_1 := hx5.kd z4_q_1 (by decide)
              have z5_q_2 := hx5.kd z4_q_2 (by decide)
              have z5_q_3 := hx5.kd z4_q_3 (by decide)
              have z5_q_4 := hx5.kd hq4 (by decide)
              have y5_q_2 := tt_elx hx5 (by decide) y4_q_2
              have y5_q_3 := tt_elx hx5 (by decide) y4_q_3
              have y5_q_4 := tt_elx hx5 (by decide) y4_q_4
              have hok := hok1
              exact jj_vretI C ⟨rfl, _, hq5, hok1⟩ dX0_init_171 (jj_le rfl) (jj_le rfl)
            | succ n ih =>
              intro i f_r K pl hin hok h_r h_s h_l
              refine jj_iload_n C dX0_init_146 rfl ?_
              refine jj_bipush (v := 12) C dX0_init_147 (by decide) ?_
              refine jj_icmp_geF (tgt := 171) C dX0_init_149 (by decide) (jj_ixF (i := i) (N := 12) (by omega) (by decide) (by decide)) ?_
              refine jj_aload_n C dX0_init_152 rfl ?_
              refine jj_get C jk_2 13 (by decide) jw_241b9bc751 0 rfl rfl dX0_init_153 ?_
              refine jj_iload_n C dX0_init_156 rfl ?_
              show jj_J p l e (jj_rm 2 32 62 394) s m args below meth c 2 A (MQ below (jj_q D A (fun (w : va_W) (r : Option Value) => r = none ∧ ∃ Kn : Nat → Nat, Kn h0 = 1 ∧ tt_ok tt_tk cA Kn w)) args s 62 394 A) (jj_X D A ([(h0, .inr (2, [.int 1, .int 0, .int 0, .int 0, .int 100, .int 0, .int 0, .int 0, .int 0, .int 0, .ref q_1, .ref q_2, .ref q_3, .ref q_4])), (q_1, .inl (cA 2, 6, .inr (.inl (fun _ => 0)))), (q_2, .inl (cA 8, 6, .inr (.inr (.inr (.inr f_s))))), (q_3, .inl (cA 6, 40, .inr (.inr (.inr (.inr f_l))))), (q_4, .inl (cA 7, 12, .inr (.inr (.inr (.inr f_r)))))] ++ pl)) _ _ 157 [(1, .int (nI i)), (0, .ref h0)] [.int (nI i), .ref q_4]
              refine jj_new (wt := []) C jk_7 jw_f318dfa091 jw_2960c7c093 jw_37718511f3 jd_7 (by show _ ≤ 62; omega) (by show _ ≤ 394; omega) dX0_init_157 (fun q_5 => ?_)
              refine tt_swp rfl ?_
              refine jj_dup C dX0_init_160 rfl ?_
              refine tt_callIN0 (host := "SeriesFund") (rest := [.ref q_5, .int (nI i), .ref q_4]) C (ct_X6_init_1 hl D cA ak q_5) [5] [0, 1, 2, 3, 4] rfl rfl (by decide) (by decide) (by decide) (by decide +kernel) jw_38bbc6fe1e jw_37718511f3 jw_4613c3c64b rfl jn_X6_init rfl (jj_le rfl) (jj_le rfl) (by show _ ≤ 62; omega) (by show _ ≤ 394; omega) (jj_le rfl) dX0_init_161 rfl (fun w1 r O_7 => ?_)
              obtain ⟨rfl, rfl⟩ := O_7
              refine tt_apd rfl ?_
              refine jj_aast C 4 7 5 rfl rfl rfl rfl (vp_in_nI (by omega) (by decide)) (g := (va_up f_r ((nI i)).toNatClampNeg (some q_5))) rfl rfl dX0_init_164 ?_
              refine jj_iinc (v := nI (i + 1)) C dX0_init_165 rfl (jj_ni i) (by decide) rfl ?_
              refine jj_goto (tgt := 146) C dX0_init_168 (by decide) ?_
              show jj_J p l e (jj_rm 2 32 62 394) s m args below meth c 2 A (MQ below (jj_q D A (fun (w : va_W) (r : Option Value) => r = none ∧ ∃ Kn : Nat → Nat, Kn h0 = 1 ∧ tt_ok tt_tk cA Kn w)) args s 62 394 A) (jj_X D A ([(h0, .inr (2, [.int 1, .int 0, .int 0, .int 0, .int 100, .int 0, .int 0, .int 0, .int 0, .int 0, .ref q_1, .ref q_2, .ref q_3, .ref q_4])), (q_1, .inl (cA 2, 6, .inr (.inl (fun _ => 0)))), (q_2, .inl (cA 8, 6, .inr (.inr (.inr (.inr f_s))))), (q_3, .inl (cA 6, 40, .inr (.inr (.inr (.inr f_l))))), (q_4, .inl (cA 7, 12, .inr (.inr (.inr (.inr (va_up f_r ((nI i)).toNatClampNeg (some q_5))))))), (q_5, .inr (7, [.int 0, .int 0, .int 0, .long 0, .long 0]))] ++ pl)) _ _ 146 [(1, .int (nI (i + 1))), (0, .ref h0)] []
              refine tt_prom (k := 4) [(h0, .inr (2, [.int 1, .int 0, .int 0, .int 0, .int 100, .int 0, .int 0, .int 0, .int 0, .int 0, .ref q_1, .ref q_2, .ref q_3, .ref q_4])), (q_1, .inl (cA 2, 6, .inr (.inl (fun _ => 0)))), (q_2, .inl (cA 8, 6, .inr (.inr (.inr (.inr f_s))))), (q_3, .inl (cA 6, 40, .inr (.inr (.inr (.inr f_l))))), (q_4, .inl (cA 7, 12, .inr (.inr (.inr (.inr (va_up f_r ((nI i)).toNatClampNeg (some q_5)))))))] rfl hok (fun K1 hx1 hq1 => tt_Eo (fts := [(0, (-2147483648), 2147483647), (0, (-2147483648), 2147483647), (0, 0, 1), (1, (-9223372036854775808), 9223372036854775807), (1, (-9223372036854775808), 9223372036854775807)]) rfl ⟨tt_ia _, tt_ia _, tt_iv (by decide) (by decide), tt_ja _, tt_ja _, trivial⟩) (fun K1 pl1 hok1 hx1 hq1 tr1 at1 => ?_)
              refine jj_widen (k := (50 + 1 * (i + 1))) (n := (334 + 5 * (i + 1))) (by omega) (by omega) ?_
              exact ih (i + 1) (va_up f_r ((nI i)).toNatClampNeg (some q_5)) K1 pl1 (by omega) hok1 (tt_els (by omega) hx1 (by decide) hq1 h_r) (tt_elx hx1 (by decide) h_s) (tt_elx hx1 (by decide) h_l)
          exact hL3 12 0 (fun _ => none) K pl rfl hok (fun j hj => absurd hj (Nat.not_lt_zero _)) h_s h_l
        | succ n ih =>
          intro i f_l K pl hin hok h_l h_s
          refine jj_iload_n C dX0_init_119 rfl ?_
          refine jj_bipush (v := 40) C dX0_init_120 (by decide) ?_
          refine jj_icmp_geF (tgt := 144) C dX0_init_122 (by decide) (jj_ixF (i := i) (N := 40) (by omega) (by decide) (by decide)) ?_
          refine jj_aload_n C dX0_init_125 rfl ?_
          refine jj_get C jk_2 12 (by decide) jw_5f730213e9 0 rfl rfl dX0_init_126 ?_
          refine jj_iload_n C dX0_init_129 rfl ?_
          show jj_J p l e (jj_rm 2 32 62 394) s m args below meth c 2 A (MQ below (jj_q D A (fun (w : va_W) (r : Option Value) => r = none ∧ ∃ Kn : Nat → Nat, Kn h0 = 1 ∧ tt_ok tt_tk cA Kn w)) args s 62 394 A) (jj_X D A ([(h0, .inr (2, [.int 1, .int 0, .int 0, .int 0, .int 100, .int 0, .int 0, .int 0, .int 0, .int 0, .ref q_1, .ref q_2, .ref q_3, .ref q_4])), (q_1, .inl (cA 2, 6, .inr (.inl (fun _ => 0)))), (q_2, .inl (cA 8, 6, .inr (.inr (.inr (.inr f_s))))), (q_3, .inl (cA 6, 40, .inr (.inr (.inr (.inr f_l))))), (q_4, .inl (cA 7, 12, .inr (.inr (.inr (.inr (fun _ => none))))))] ++ pl)) _ _ 130 [(1, .int (nI i)), (0, .ref h0)] [.int (nI i), .ref q_3]
          refine jj_new (wt := []) C jk_5 jw_8382445808 jw_d7f4a04220 jw_2fe9664d28 jd_5 (by show _ ≤ 62; omega) (by show _ ≤ 394; omega) dX0_init_130 (fun q_8 => ?_)
          refine tt_swp rfl ?_
          refine jj_dup C dX0_init_133 rfl ?_
          refine tt_callIN0 (host := "SeriesFund") (rest := [.ref q_8, .int (nI i), .ref q_3]) C (ct_X4_init_1 hl D cA ak q_8) [5] [0, 1, 2, 3, 4] rfl rfl (by decide) (by decide) (by decide) (by decide +kernel) jw_0b1f0df0b7 jw_2fe9664d28 jw_ad4ede2e69 rfl jn_X4_init rfl (jj_le rfl) (jj_le rfl) (by show _ ≤ 62; omega) (by show _ ≤ 394; omega) (jj_le rfl) dX0_init_134 rfl (fun w1 r O_10 => ?_)
          obtain ⟨rfl, rfl⟩ := O_10
          refine tt_apd rfl ?_
          refine jj_aast C 3 6 5 rfl rfl rfl rfl (vp_in_nI (by omega) (by decide)) (g := (va_up f_l ((nI i)).toNatClampNeg (some q_8))) rfl rfl dX0_init_137 ?_
          refine jj_iinc (v := nI (i + 1)) C dX0_init_138 rfl (jj_ni i) (by decide) rfl ?_
          refine jj_goto (tgt := 119) C dX0_init_141 (by decide) ?_
          show jj_J p l e (jj_rm 2 32 62 394) s m args below meth c 2 A (MQ below (jj_q D A (fun (w : va_W) (r : Option Value) => r = none ∧ ∃ Kn : Nat → Nat, Kn h0 = 1 ∧ tt_ok tt_tk cA Kn w)) args s 62 394 A) (jj_X D A ([(h0, .inr (2, [.int 1, .int 0, .int 0, .int 0, .int 100, .int 0, .int 0, .int 0, .int 0, .int 0, .ref q_1, .ref q_2, .ref q_3, .ref q_4])), (q_1, .inl (cA 2, 6, .inr (.inl (fun _ => 0)))), (q_2, .inl (cA 8, 6, .inr (.inr (.inr (.inr f_s))))), (q_3, .inl (cA 6, 40, .inr (.inr (.inr (.inr (va_up f_l ((nI i)).toNatClampNeg (some q_8))))))), (q_4, .inl (cA 7, 12, .inr (.inr (.inr (.inr (fun _ => none)))))), (q_8, .inr (5, [.int 0, .int 0, .int 0, .long 0, .long 0, .long 0]))] ++ pl)) _ _ 119 [(1, .int (nI (i + 1))), (0, .ref h0)] []
          refine tt_prom (k := 3) [(h0, .inr (2, [.int 1, .int 0, .int 0, .int 0, .int 100, .int 0, .int 0, .int 0, .int 0, .int 0, .ref q_1, .ref q_2, .ref q_3, .ref q_4])), (q_1, .inl (cA 2, 6, .inr (.inl (fun _ => 0)))), (q_2, .inl (cA 8, 6, .inr (.inr (.inr (.inr f_s))))), (q_3, .inl (cA 6, 40, .inr (.inr (.inr (.inr (va_up f_l ((nI i)).toNatClampNeg (some q_8))))))), (q_4, .inl (cA 7, 12, .inr (.inr (.inr (.inr (fun _ => none))))))] rfl hok (fun K1 hx1 hq1 => tt_Eo (fts := [(0, (-2147483648), 2147483647), (0, (-2147483648), 2147483647), (0, (-2147483648), 2147483647), (1, (-9223372036854775808), 9223372036854775807), (1, (-9223372036854775808), 9223372036854775807), (1, (-9223372036854775808), 9223372036854775807)]) rfl ⟨tt_ia _, tt_ia _, tt_ia _, tt_ja _, tt_ja _, tt_ja _, trivial⟩) (fun K1 pl1 hok1 hx1 hq1 tr1 at1 => ?_)
          refine jj_widen (k := (10 + 1 * (i + 1))) (n := (94 + 6 * (i + 1))) (by omega) (by omega) ?_
          exact ih (i + 1) (va_up f_l ((nI i)).toNatClampNeg (some q_8)) K1 pl1 (by omega) hok1 (tt_els (by omega) hx1 (by decide) hq1 h_l) (tt_elx hx1 (by decide) h_s)
      exact hL2 40 0 (fun _ => none) K pl rfl hok (fun j hj => absurd hj (Nat.not_lt_zero _)) h_s
    | succ n ih =>
      intro i f_s K pl hin hok h_s
      refine jj_iload_n C dX0_init_92 rfl ?_
      refine jj_bipush (v := 6) C dX0_init_93 (by decide) ?_
      refine jj_icmp_geF (tgt := 117) C dX0_init_95 (by decide) (jj_ixF (i := i) (N := 6) (by omega) (by decide) (by decide)) ?_
      refine jj_aload_n C dX0_init_98 rfl ?_
      refine jj_get C jk_2 11 (by decide) jw_b81d81495e 0 rfl rfl dX0_init_99 ?_
      refine jj_iload_n C dX0_init_102 rfl ?_
      show jj_J p l e (jj_rm 2 32 62 394) s m args below meth c 2 A (MQ below (jj_q D A (fun (w : va_W) (r : Option Value) => r = none ∧ ∃ Kn : Nat → Nat, Kn h0 = 1 ∧ tt_ok tt_tk cA Kn w)) args s 62 394 A) (jj_X D A ([(h0, .inr (2, [.int 1, .int 0, .int 0, .int 0, .int 100, .int 0, .int 0, .int 0, .int 0, .int 0, .ref q_1, .ref q_2, .ref q_3, .ref q_4])), (q_1, .inl (cA 2, 6, .inr (.inl (fun _ => 0)))), (q_2, .inl (cA 8, 6, .inr (.inr (.inr (.inr f_s))))), (q_3, .inl (cA 6, 40, .inr (.inr (.inr (.inr (fun _ => none)))))), (q_4, .inl (cA 7, 12, .inr (.inr (.inr (.inr (fun _ => none))))))] ++ pl)) _ _ 103 [(1, .int (nI i)), (0, .ref h0)] [.int (nI i), .ref q_2]
      refine jj_new (wt := []) C jk_9 jw_067135d01a jw_e92b5de6be jw_364e75910d jd_9 (by show _ ≤ 62; omega) (by show _ ≤ 394; omega) dX0_init_103 (fun q_11 => ?_)
      refine tt_swp rfl ?_
      refine jj_dup C dX0_init_106 rfl ?_
      refine tt_callIN0 (host := "SeriesFund") (rest := [.ref q_11, .int (nI i), .ref q_2]) C (ct_X8_init_1 hl D cA ak q_11) [5] [0, 1, 2, 3, 4] rfl rfl (by decide) (by decide) (by decide) (by decide +kernel) jw_830c0a026e jw_364e75910d jw_1f3116639f rfl jn_X8_init rfl (jj_le rfl) (jj_le rfl) (by show _ ≤ 62; omega) (by show _ ≤ 394; omega) (jj_le rfl) dX0_init_107 rfl (fun w1 r O_13 => ?_)
      obtain ⟨rfl, rfl⟩ := O_13
      refine tt_apd rfl ?_
      refine jj_aast C 2 8 5 rfl rfl rfl rfl (vp_in_nI (by omega) (by decide)) (g := (va_up f_s ((nI i)).toNatClampNeg (some q_11))) rfl rfl dX0_init_110 ?_
      refine jj_iinc (v := nI (i + 1)) C dX0_init_111 rfl (jj_ni i) (by decide) rfl ?_
      refine jj_goto (tgt := 92) C dX0_init_114 (by decide) ?_
      show jj_J p l e (jj_rm 2 32 62 394) s m args below meth c 2 A (MQ below (jj_q D A (fun (w : va_W) (r : Option Value) => r = none ∧ ∃ Kn : Nat → Nat, Kn h0 = 1 ∧ tt_ok tt_tk cA Kn w)) args s 62 394 A) (jj_X D A ([(h0, .inr (2, [.int 1, .int 0, .int 0, .int 0, .int 100, .int 0, .int 0, .int 0, .int 0, .int 0, .ref q_1, .ref q_2, .ref q_3, .ref q_4])), (q_1, .inl (cA 2, 6, .inr (.inl (fun _ => 0)))), (q_2, .inl (cA 8, 6, .inr (.inr (.inr (.inr (va_up f_s ((nI i)).toNatClampNeg (some q_11))))))), (q_3, .inl (cA 6, 40, .inr (.inr (.inr (.inr (fun _ => none)))))), (q_4, .inl (cA 7, 12, .inr (.inr (.inr (.inr (fun _ => none)))))), (q_11, .inr (9, [.int 0, .int 0, .long 0, .long 0, .long 1000000]))] ++ pl)) _ _ 92 [(1, .int (nI (i + 1))), (0, .ref h0)] []
      refine tt_prom (k := 2) [(h0, .inr (2, [.int 1, .int 0, .int 0, .int 0, .int 100, .int 0, .int 0, .int 0, .int 0, .int 0, .ref q_1, .ref q_2, .ref q_3, .ref q_4])), (q_1, .inl (cA 2, 6, .inr (.inl (fun _ => 0)))), (q_2, .inl (cA 8, 6, .inr (.inr (.inr (.inr (va_up f_s ((nI i)).toNatClampNeg (some q_11))))))), (q_3, .inl (cA 6, 40, .inr (.inr (.inr (.inr (fun _ => none)))))), (q_4, .inl (cA 7, 12, .inr (.inr (.inr (.inr (fun _ => none))))))] rfl hok (fun K1 hx1 hq1 => tt_Eo (fts := [(0, (-2147483648), 2147483647), (0, (-2147483648), 2147483647), (1, (-9223372036854775808), 9223372036854775807), (1, (-9223372036854775808), 9223372036854775807), (1, (-9223372036854775808), 9223372036854775807)]) rfl ⟨tt_ia _, tt_ia _, tt_ja _, tt_ja _, tt_ja _, trivial⟩) (fun K1 pl1 hok1 hx1 hq1 tr1 at1 => ?_)
      refine jj_widen (k := (4 + 1 * (i + 1))) (n := (64 + 5 * (i + 1))) (by omega) (by omega) ?_
      exact ih (i + 1) (va_up f_s ((nI i)).toNatClampNeg (some q_11)) K1 pl1 (by omega) hok1 (tt_els (by omega) hx1 (by decide) hq1 h_s)
  exact tt_pl0 (hL1 6 0 (fun _ => none) (fun _ => 0) [] rfl tt_nil (fun j hj => absurd hj (Nat.not_lt_zero _)))
set_option maxHeartbeats 4000000 in
set_option maxRecDepth 100000 in
theorem tc_X1_init {l : Launch} (hl : l.stackTraces = false) (D : va_G) (cA : Nat → ClassId) (ak : (Nat → Nat) × (Nat → Nat)) (h0 : Nat) : jj_I l D cA ak yX1_init (.code yX1_init cX1_init 2 none) 2 32 7 36 [(h0, .inr (3, [.null, .long 0, .long 0, .long 0, .long 0, .long 0]))] [.ref h0] (fun (w : va_W) (r : Option Value) => r = none ∧ ∃ Kn : Nat → Nat, Kn h0 = 9 ∧ tt_ok tt_tk cA Kn w) := by
  refine jj_startI hl (by decide) jw_8c193cec4d (jj_le rfl) ?_
  intro p e s m args below meth c A hargs hA C hmn
  refine jj_aload_n C dX1_init_0 rfl ?_
  refine jj_objInit C jw_eb11a68063 jw_449f795db0 jw_679af8422a (jj_le rfl) (jj_le rfl) dX1_init_1 ?_
  refine jj_aload_n C dX1_init_4 rfl ?_
  refine jj_bipush (v := 6) C dX1_init_5 (by decide) ?_
  refine jj_newq (N' := 6) C 8 rfl jw_419576c2a9 (by decide) (by decide) (by decide) (jj_le rfl) (jj_le rfl) (jj_le rfl) dX1_init_7 (fun q_1 => ?_)
  refine jj_apd rfl ?_
  refine jj_putF C jk_3 0 (by decide) jw_808194b586 rfl hmn rfl 0 rfl rfl rfl rfl rfl dX1_init_10 ?_
  refine jj_aload_n C dX1_init_13 rfl ?_
  refine jj_lconst (v := 0) C dX1_init_14 (by decide) ?_
  refine jj_put C jk_3 1 (by decide) jw_d747bb1560 rfl 0 rfl rfl rfl rfl rfl dX1_init_15 ?_
  refine jj_aload_n C dX1_init_18 rfl ?_
  refine jj_lconst (v := 0) C dX1_init_19 (by decide) ?_
  refine jj_put C jk_3 2 (by decide) jw_771ad03ca8 rfl 0 rfl rfl rfl rfl rfl dX1_init_20 ?_
  refine jj_aload_n C dX1_init_23 rfl ?_
  refine jj_lconst (v := 0) C dX1_init_24 (by decide) ?_
  refine jj_put C jk_3 3 (by decide) jw_71edc34996 rfl 0 rfl rfl rfl rfl rfl dX1_init_25 ?_
  refine jj_aload_n C dX1_init_28 rfl ?_
  refine jj_lconst (v := 0) C dX1_init_29 (by decide) ?_
  refine jj_put C jk_3 4 (by decide) jw_21f29d6c44 rfl 0 rfl rfl rfl rfl rfl dX1_init_30 ?_
  refine jj_aload_n C dX1_init_33 rfl ?_
  refine jj_lconst (v := 0) C dX1_init_34 (by decide) ?_
  refine jj_put C jk_3 5 (by decide) jw_e41f55c9ce rfl 0 rfl rfl rfl rfl rfl dX1_init_35 ?_
  refine jj_iconst (v := 0) C dX1_init_38 (by decide) ?_
  refine jj_istore_n C dX1_init_39 (by decide) rfl ?_
  have hL1 : ∀ (n i : Nat) (f_s : Nat → Option Nat) (K : Nat → Nat) (pl : va_W), i + n = 6 → tt_ok tt_tk cA K pl → (∀ j : Nat, j < i → ∃ a : Nat, f_s j = some a ∧ K a = 2) → jj_J p l e (jj_rm 2 32 7 36) s m args below meth c 2 A (MQ below (jj_q D A (fun (w : va_W) (r : Option Value) => r = none ∧ ∃ Kn : Nat → Nat, Kn h0 = 9 ∧ tt_ok tt_tk cA Kn w)) args s 7 36 A) (jj_X D A ([(h0, .inr (3, [.ref q_1, .long 0, .long 0, .long 0, .long 0, .long 0])), (q_1, .inl (cA 8, 6, .inr (.inr (.inr (.inr f_s)))))] ++ pl)) (1 + 1 * i) (6 + 5 * i) 40 [(1, .int (nI i)), (0, .ref h0)] [] := by
    intro n
    induction n with
    | zero =>
      intro i f_s K pl hin hok h_s
      obtain rfl : i = 6 := by omega
      show jj_J p l e (jj_rm 2 32 7 36) s m args below meth c 2 A (MQ below (jj_q D A (fun (w : va_W) (r : Option Value) => r = none ∧ ∃ Kn : Nat → Nat, Kn h0 = 9 ∧ tt_ok tt_tk cA Kn w)) args s 7 36 A) (jj_X D A ([(h0, .inr (3, [.ref q_1, .long 0, .long 0, .long 0, .long 0, .long 0])), (q_1, .inl (cA 8, 6, .inr (.inr (.inr (.inr f_s)))))] ++ pl)) 7 36 40 [(1, .int 6), (0, .ref h0)] []
      refine jj_iload_n C dX1_init_40 rfl ?_
      refine jj_bipush (v := 6) C dX1_init_41 (by decide) ?_
      refine jj_icmp_geT (tgt := 65) C dX1_init_43 (by decide) (by decide) ?_
      show jj_J p l e (jj_rm 2 32 7 36) s m args below meth c 2 A (MQ below (jj_q D A (fun (w : va_W) (r : Option Value) => r = none ∧ ∃ Kn : Nat → Nat, Kn h0 = 9 ∧ tt_ok tt_tk cA Kn w)) args s 7 36 A) (jj_X D A ([(h0, .inr (3, [.ref q_1, .long 0, .long 0, .long 0, .long 0, .long 0])), (q_1, .inl (cA 8, 6, .inr (.inr (.inr (.inr f_s)))))] ++ pl)) _ _ 65 [(1, .int 6), (0, .ref h0)] []
      refine tt_prom (k := 6) [(h0, .inr (3, [.ref q_1, .long 0, .long 0, .long 0, .long 0, .long 0]))] rfl hok (fun K1 hx1 hq1 => tt_Eq (t := (2, 2, 0)) rfl (tt_elv rfl (tt_elx hx1 (by decide) h_s))) (fun K1 pl1 hok1 hx1 hq1 tr1 at1 => ?_)
      have y1_q_1 := tt_elx hx1 (by decide) h_s
      have hok := hok1
      refine tt_prom (k := 9) [] rfl hok (fun K1 hx2 hq2 => tt_Eo (fts := [(2, 6, 0), (1, (-9223372036854775808), 9223372036854775807), (1, (-9223372036854775808), 9223372036854775807), (1, (-9223372036854775808), 9223372036854775807), (1, (-9223372036854775808), 9223372036854775807), (1, (-9223372036854775808), 9223372036854775807)]) rfl ⟨tt_rv (hx2.kd hq1 (by decide)), tt_ja _, tt_ja _, tt_ja _, tt_ja _, tt_ja _, trivial⟩) (fun K1 pl1 hok1 hx2 hq2 tr2 at2 => ?_)
      have z2_q_1 := hx2.kd hq1 (by decide)
      have y2_q_1 := tt_elx hx2 (by decide) y1_q_1
      have hok := hok1
      exact jj_vretI C ⟨rfl, _, hq2, hok1⟩ dX1_init_65 (jj_le rfl) (jj_le rfl)
    | succ n ih =>
      intro i f_s K pl hin hok h_s
      refine jj_iload_n C dX1_init_40 rfl ?_
      refine jj_bipush (v := 6) C dX1_init_41 (by decide) ?_
      refine jj_icmp_geF (tgt := 65) C dX1_init_43 (by decide) (jj_ixF (i := i) (N := 6) (by omega) (by decide) (by decide)) ?_
      refine jj_aload_n C dX1_init_46 rfl ?_
      refine jj_get C jk_3 0 (by decide) jw_808194b586 0 rfl rfl dX1_init_47 ?_
      refine jj_iload_n C dX1_init_50 rfl ?_
      show jj_J p l e (jj_rm 2 32 7 36) s m args below meth c 2 A (MQ below (jj_q D A (fun (w : va_W) (r : Option Value) => r = none ∧ ∃ Kn : Nat → Nat, Kn h0 = 9 ∧ tt_ok tt_tk cA Kn w)) args s 7 36 A) (jj_X D A ([(h0, .inr (3, [.ref q_1, .long 0, .long 0, .long 0, .long 0, .long 0])), (q_1, .inl (cA 8, 6, .inr (.inr (.inr (.inr f_s)))))] ++ pl)) _ _ 51 [(1, .int (nI i)), (0, .ref h0)] [.int (nI i), .ref q_1]
      refine jj_new (wt := []) C jk_9 jw_419576c2a9 jw_e92b5de6be jw_364e75910d jd_9 (by show _ ≤ 7; omega) (by show _ ≤ 36; omega) dX1_init_51 (fun q_2 => ?_)
      refine tt_swp rfl ?_
      refine jj_dup C dX1_init_54 rfl ?_
      refine tt_callIN0 (host := "SeriesFund") (rest := [.ref q_2, .int (nI i), .ref q_1]) C (ct_X8_init_1 hl D cA ak q_2) [2] [0, 1] rfl rfl (by decide) (by decide) (by decide) (by decide +kernel) jw_830c0a026e jw_364e75910d jw_1f3116639f rfl jn_X8_init rfl (jj_le rfl) (jj_le rfl) (by show _ ≤ 7; omega) (by show _ ≤ 36; omega) (jj_le rfl) dX1_init_55 rfl (fun w1 r O_4 => ?_)
      obtain ⟨rfl, rfl⟩ := O_4
      refine tt_apd rfl ?_
      refine jj_aast C 1 8 2 rfl rfl rfl rfl (vp_in_nI (by omega) (by decide)) (g := (va_up f_s ((nI i)).toNatClampNeg (some q_2))) rfl rfl dX1_init_58 ?_
      refine jj_iinc (v := nI (i + 1)) C dX1_init_59 rfl (jj_ni i) (by decide) rfl ?_
      refine jj_goto (tgt := 40) C dX1_init_62 (by decide) ?_
      show jj_J p l e (jj_rm 2 32 7 36) s m args below meth c 2 A (MQ below (jj_q D A (fun (w : va_W) (r : Option Value) => r = none ∧ ∃ Kn : Nat → Nat, Kn h0 = 9 ∧ tt_ok tt_tk cA Kn w)) args s 7 36 A) (jj_X D A ([(h0, .inr (3, [.ref q_1, .long 0, .long 0, .long 0, .long 0, .long 0])), (q_1, .inl (cA 8, 6, .inr (.inr (.inr (.inr (va_up f_s ((nI i)).toNatClampNeg (some q_2))))))), (q_2, .inr (9, [.int 0, .int 0, .long 0, .long 0, .long 1000000]))] ++ pl)) _ _ 40 [(1, .int (nI (i + 1))), (0, .ref h0)] []
      refine tt_prom (k := 2) [(h0, .inr (3, [.ref q_1, .long 0, .long 0, .long 0, .long 0, .long 0])), (q_1, .inl (cA 8, 6, .inr (.inr (.inr (.inr (va_up f_s ((nI i)).toNatClampNeg (some q_2)))))))] rfl hok (fun K1 hx1 hq1 => tt_Eo (fts := [(0, (-2147483648), 2147483647), (0, (-2147483648), 2147483647), (1, (-9223372036854775808), 9223372036854775807), (1, (-9223372036854775808), 9223372036854775807), (1, (-9223372036854775808), 9223372036854775807)]) rfl ⟨tt_ia _, tt_ia _, tt_ja _, tt_ja _, tt_ja _, trivial⟩) (fun K1 pl1 hok1 hx1 hq1 tr1 at1 => ?_)
      refine jj_widen (k := (1 + 1 * (i + 1))) (n := (6 + 5 * (i + 1))) (by omega) (by omega) ?_
      exact ih (i + 1) (va_up f_s ((nI i)).toNatClampNeg (some q_2)) K1 pl1 (by omega) hok1 (tt_els (by omega) hx1 (by decide) hq1 h_s)
  exact tt_pl0 (hL1 6 0 (fun _ => none) (fun _ => 0) [] rfl tt_nil (fun j hj => absurd hj (Nat.not_lt_zero _)))
set_option maxHeartbeats 4000000 in
set_option maxRecDepth 100000 in
theorem tc_X10_init {l : Launch} (hl : l.stackTraces = false) (D : va_G) (cA : Nat → ClassId) (ak : (Nat → Nat) × (Nat → Nat)) (h0 : Nat) : jj_I l D cA ak yX10_init (.code yX10_init cX10_init 1 none) 3 53 140 2598 [(h0, .inr (11, [.null, .int 0, .int 0, .null, .null, .null, .null, .int 0, .int 0, .null]))] [.ref h0] (fun (w : va_W) (r : Option Value) => r = none ∧ ∃ Kn : Nat → Nat, Kn h0 = 15 ∧ tt_ok tt_tk cA Kn w ∧ ∃ at0 : Nat, Kn at0 = 10 ∧ tt_at w h0 0 (.ref at0) ∧ tt_at w at0 1 (.int 0) ∧ tt_at w h0 1 (.int 0) ∧ tt_at w h0 2 (.int (-1))) := by
  refine jj_startI hl (by decide) jw_575d763d66 (jj_le rfl) ?_
  intro p e s m args below meth c A hargs hA C hmn
  refine jj_aload_n C dX10_init_0 rfl ?_
  refine jj_objInit C jw_673ba38874 jw_449f795db0 jw_679af8422a (jj_le rfl) (jj_le rfl) dX10_init_1 ?_
  refine jj_aload_n C dX10_init_4 rfl ?_
  refine jj_new (wt := []) C jk_10 jw_69971c63bf jw_41cdf68743 jw_a9e7b602dc jd_10 (jj_le rfl) (jj_le rfl) dX10_init_5 (fun q_1 => ?_)
  refine jj_apd rfl ?_
  refine jj_dup C dX10_init_8 rfl ?_
  refine jq_callIN (host := "SeriesFund") (rest := [.ref q_1, .ref h0]) C (ct_X9_init_1 hl D cA ak q_1) [1] [0] rfl rfl (by decide) (by decide) (by decide) (by decide +kernel) jw_33db4fb78a jw_a9e7b602dc jw_852aa59802 rfl jn_X9_init rfl (jj_le rfl) (jj_le rfl) (jj_le rfl) (jj_le rfl) (jj_le rfl) dX10_init_9 rfl (fun w1 r O_3 => ?_)
  obtain ⟨q_4, rfl, rfl⟩ := O_3
  refine jj_apd rfl ?_
  refine jj_putF C jk_11 0 (by decide) jw_4836d4133c rfl hmn rfl 0 rfl rfl rfl rfl rfl dX10_init_12 ?_
  refine jj_aload_n C dX10_init_15 rfl ?_
  refine jj_iconst (v := 0) C dX10_init_16 (by decide) ?_
  refine jj_put C jk_11 1 (by decide) jw_1eeb46a090 rfl 0 rfl rfl rfl rfl rfl dX10_init_17 ?_
  refine jj_aload_n C dX10_init_20 rfl ?_
  refine jj_iconst (v := (-1)) C dX10_init_21 (by decide) ?_
  refine jj_put C jk_11 2 (by decide) jw_e0c9868424 rfl 0 rfl rfl rfl rfl rfl dX10_init_22 ?_
  refine jj_aload_n C dX10_init_25 rfl ?_
  refine jj_new (wt := []) C jk_2 jw_e70c7fcb4b jw_3b2aa3361c jw_7d25d4fd32 jd_2 (jj_le rfl) (jj_le rfl) dX10_init_26 (fun q_5 => ?_)
  refine jj_apd rfl ?_
  refine jj_dup C dX10_init_29 rfl ?_
  refine jq_callI (rest := [.ref q_5, .ref h0]) C (tc_X0_init hl D cA ak q_5) [3] [0, 1, 2] rfl rfl (by decide) (by decide) (by decide) jw_6eb1e064fe jw_6e7d7095aa jw_7d25d4fd32 jw_b958fb03a7 rfl jn_X0_init rfl (jj_le rfl) (jj_le rfl) (jj_le rfl) (jj_le rfl) (jj_le rfl) dX10_init_30 rfl (fun pl r O => ?_)
  obtain ⟨rfl, K, hk_q_5, hok⟩ := O
  refine jj_putF C jk_11 3 (by decide) jw_f82a97e333 rfl hmn rfl 0 rfl rfl rfl rfl rfl dX10_init_33 ?_
  refine jj_aload_n C dX10_init_36 rfl ?_
  show jj_J p l e (jj_rm 3 53 140 2598) s m args below meth c 1 A (MQ below (jj_q D A (fun (w : va_W) (r : Option Value) => r = none ∧ ∃ Kn : Nat → Nat, Kn h0 = 15 ∧ tt_ok tt_tk cA Kn w ∧ ∃ at0 : Nat, Kn at0 = 10 ∧ tt_at w h0 0 (.ref at0) ∧ tt_at w at0 1 (.int 0) ∧ tt_at w h0 1 (.int 0) ∧ tt_at w h0 2 (.int (-1)))) args s 140 2598 A) (jj_X D A ([(h0, .inr (11, [.ref q_1, .int 0, .int (-1), .ref q_5, .null, .null, .null, .int 0, .int 0, .null])), (q_1, .inr (10, [.ref q_4, .int 0, .int 0, .int 0, .int 0, .int 0, .int (-1)])), (q_4, .inl (cA 1, 400, .inl (fun _ => 0)))] ++ pl)) _ _ 37 [(0, .ref h0)] [.ref h0]
  refine jj_new (wt := []) C jk_2 jw_e70c7fcb4b jw_3b2aa3361c jw_7d25d4fd32 jd_2 (jj_le rfl) (jj_le rfl) dX10_init_37 (fun q_6 => ?_)
  refine tt_swp rfl ?_
  refine jj_dup C dX10_init_40 rfl ?_
  refine tt_callI0 (rest := [.ref q_6, .ref h0]) C (tc_X0_init hl D cA ak q_6) [3] [0, 1, 2] rfl rfl (by decide) (by decide) (by decide) jw_6eb1e064fe jw_6e7d7095aa jw_7d25d4fd32 jw_b958fb03a7 rfl jn_X0_init rfl (jj_le rfl) (jj_le rfl) (jj_le rfl) (jj_le rfl) (jj_le rfl) dX10_init_41 rfl (fun w1 r O => ?_)
  obtain ⟨rfl, Kn, hkn, hokn⟩ := O
  refine tt_merge hok hokn (fun K pl hok hx hy tr1 tr2 => ?_)
  have hk_q_5 := hx.kd hk_q_5 (by decide)
  have hk_q_6 := hy.kd hkn (by decide)
  refine jj_putF C jk_11 4 (by decide) jw_a0e4d790fa rfl hmn rfl 0 rfl rfl rfl rfl rfl dX10_init_44 ?_
  refine jj_aload_n C dX10_init_47 rfl ?_
  show jj_J p l e (jj_rm 3 53 140 2598) s m args below meth c 1 A (MQ below (jj_q D A (fun (w : va_W) (r : Option Value) => r = none ∧ ∃ Kn : Nat → Nat, Kn h0 = 15 ∧ tt_ok tt_tk cA Kn w ∧ ∃ at0 : Nat, Kn at0 = 10 ∧ tt_at w h0 0 (.ref at0) ∧ tt_at w at0 1 (.int 0) ∧ tt_at w h0 1 (.int 0) ∧ tt_at w h0 2 (.int (-1)))) args s 140 2598 A) (jj_X D A ([(h0, .inr (11, [.ref q_1, .int 0, .int (-1), .ref q_5, .ref q_6, .null, .null, .int 0, .int 0, .null])), (q_1, .inr (10, [.ref q_4, .int 0, .int 0, .int 0, .int 0, .int 0, .int (-1)])), (q_4, .inl (cA 1, 400, .inl (fun _ => 0)))] ++ pl)) _ _ 48 [(0, .ref h0)] [.ref h0]
  refine jj_new (wt := []) C jk_3 jw_d2ae92c12e jw_0b94b2a667 jw_944cf9c3ab jd_3 (jj_le rfl) (jj_le rfl) dX10_init_48 (fun q_7 => ?_)
  refine tt_swp rfl ?_
  refine jj_dup C dX10_init_51 rfl ?_
  refine tt_callI0 (rest := [.ref q_7, .ref h0]) C (tc_X1_init hl D cA ak q_7) [3] [0, 1, 2] rfl rfl (by decide) (by decide) (by decide) jw_95010ec746 jw_f18773e5c7 jw_944cf9c3ab jw_8c193cec4d rfl jn_X1_init rfl (jj_le rfl) (jj_le rfl) (jj_le rfl) (jj_le rfl) (jj_le rfl) dX10_init_52 rfl (fun w1 r O => ?_)
  obtain ⟨rfl, Kn, hkn, hokn⟩ := O
  refine tt_merge hok hokn (fun K pl hok hx hy tr1 tr2 => ?_)
  have hk_q_5 := hx.kd hk_q_5 (by decide)
  have hk_q_6 := hx.kd hk_q_6 (by decide)
  have hk_q_7 := hy.kd hkn (by decide)
  refine jj_putF C jk_11 5 (by decide) jw_34b8702fe2 rfl hmn rfl 0 rfl rfl rfl rfl rfl dX10_init_55 ?_
  refine jj_aload_n C dX10_init_58 rfl ?_
  refine jj_bipush (v := 10) C dX10_init_59 (by decide) ?_
  show jj_J p l e (jj_rm 3 53 140 2598) s m args below meth c 1 A (MQ below (jj_q D A (fun (w : va_W) (r : Option Value) => r = none ∧ ∃ Kn : Nat → Nat, Kn h0 = 15 ∧ tt_ok tt_tk cA Kn w ∧ ∃ at0 : Nat, Kn at0 = 10 ∧ tt_at w h0 0 (.ref at0) ∧ tt_at w at0 1 (.int 0) ∧ tt_at w h0 1 (.int 0) ∧ tt_at w h0 2 (.int (-1)))) args s 140 2598 A) (jj_X D A ([(h0, .inr (11, [.ref q_1, .int 0, .int (-1), .ref q_5, .ref q_6, .ref q_7, .null, .int 0, .int 0, .null])), (q_1, .inr (10, [.ref q_4, .int 0, .int 0, .int 0, .int 0, .int 0, .int (-1)])), (q_4, .inl (cA 1, 400, .inl (fun _ => 0)))] ++ pl)) _ _ 61 [(0, .ref h0)] [.int 10, .ref h0]
  refine jj_newq (N' := 10) C 5 rfl jw_e70c7fcb4b (by decide) (by decide) (by decide) (jj_le rfl) (jj_le rfl) (jj_le rfl) dX10_init_61 (fun q_8 => ?_)
  refine tt_swp rfl ?_
  refine jj_putF C jk_11 6 (by decide) jw_c7bfd4c89b rfl hmn rfl 0 rfl rfl rfl rfl rfl dX10_init_64 ?_
  refine jj_aload_n C dX10_init_67 rfl ?_
  refine jj_iconst (v := 0) C dX10_init_68 (by decide) ?_
  refine jj_put C jk_11 7 (by decide) jw_f074b96d56 rfl 0 rfl rfl rfl rfl rfl dX10_init_69 ?_
  refine jj_aload_n C dX10_init_72 rfl ?_
  refine jj_iconst (v := 0) C dX10_init_73 (by decide) ?_
  refine jj_put C jk_11 8 (by decide) jw_427985f7c9 rfl 0 rfl rfl rfl rfl rfl dX10_init_74 ?_
  refine jj_aload_n C dX10_init_77 rfl ?_
  show jj_J p l e (jj_rm 3 53 140 2598) s m args below meth c 1 A (MQ below (jj_q D A (fun (w : va_W) (r : Option Value) => r = none ∧ ∃ Kn : Nat → Nat, Kn h0 = 15 ∧ tt_ok tt_tk cA Kn w ∧ ∃ at0 : Nat, Kn at0 = 10 ∧ tt_at w h0 0 (.ref at0) ∧ tt_at w at0 1 (.int 0) ∧ tt_at w h0 1 (.int 0) ∧ tt_at w h0 2 (.int (-1)))) args s 140 2598 A) (jj_X D A ([(h0, .inr (11, [.ref q_1, .int 0, .int (-1), .ref q_5, .ref q_6, .ref q_7, .ref q_8, .int 0, .int 0, .null])), (q_1, .inr (10, [.ref q_4, .int 0, .int 0, .int 0, .int 0, .int 0, .int (-1)])), (q_4, .inl (cA 1, 400, .inl (fun _ => 0))), (q_8, .inl (cA 5, 10, .inr (.inr (.inr (.inr (fun _ => none))))))] ++ pl)) _ _ 78 [(0, .ref h0)] [.ref h0]
  refine jj_new (wt := []) C jk_6 jw_c610300d5c jw_dc986809e0 jw_30ed28480a jd_6 (jj_le rfl) (jj_le rfl) dX10_init_78 (fun q_9 => ?_)
  refine tt_swp rfl ?_
  refine jj_dup C dX10_init_81 rfl ?_
  refine tt_callIN0 (host := "SeriesFund") (rest := [.ref q_9, .ref h0]) C (ct_X5_init_1 hl D cA ak q_9) [4] [0, 1, 2, 3] rfl rfl (by decide) (by decide) (by decide) (by decide +kernel) jw_75c9666450 jw_30ed28480a jw_78484b6457 rfl jn_X5_init rfl (jj_le rfl) (jj_le rfl) (jj_le rfl) (jj_le rfl) (jj_le rfl) dX10_init_82 rfl (fun w1 r O_11 => ?_)
  obtain ⟨q_12, q_13, rfl, rfl⟩ := O_11
  refine tt_apd rfl ?_
  refine jj_putF C jk_11 9 (by decide) jw_f4d6dfb048 rfl hmn rfl 0 rfl rfl rfl rfl rfl dX10_init_85 ?_
  show jj_J p l e (jj_rm 3 53 140 2598) s m args below meth c 1 A (MQ below (jj_q D A (fun (w : va_W) (r : Option Value) => r = none ∧ ∃ Kn : Nat → Nat, Kn h0 = 15 ∧ tt_ok tt_tk cA Kn w ∧ ∃ at0 : Nat, Kn at0 = 10 ∧ tt_at w h0 0 (.ref at0) ∧ tt_at w at0 1 (.int 0) ∧ tt_at w h0 1 (.int 0) ∧ tt_at w h0 2 (.int (-1)))) args s 140 2598 A) (jj_X D A ([(h0, .inr (11, [.ref q_1, .int 0, .int (-1), .ref q_5, .ref q_6, .ref q_7, .ref q_8, .int 0, .int 0, .ref q_9])), (q_1, .inr (10, [.ref q_4, .int 0, .int 0, .int 0, .int 0, .int 0, .int (-1)])), (q_4, .inl (cA 1, 400, .inl (fun _ => 0))), (q_8, .inl (cA 5, 10, .inr (.inr (.inr (.inr (fun _ => none)))))), (q_9, .inr (6, [.ref q_12, .int 0, .ref q_13])), (q_12, .inl (cA 0, 1300, .inl (fun _ => 0))), (q_13, .inl (cA 0, 20, .inl (fun _ => 0)))] ++ pl)) _ _ 88 [(0, .ref h0)] []
  refine tt_perm [0, 4, 6, 5, 3, 1, 2] rfl (by decide) ?_
  refine tt_prom (k := 11) [(h0, .inr (11, [.ref q_1, .int 0, .int (-1), .ref q_5, .ref q_6, .ref q_7, .ref q_8, .int 0, .int 0, .ref q_9])), (q_9, .inr (6, [.ref q_12, .int 0, .ref q_13])), (q_13, .inl (cA 0, 20, .inl (fun _ => 0))), (q_12, .inl (cA 0, 1300, .inl (fun _ => 0))), (q_8, .inl (cA 5, 10, .inr (.inr (.inr (.inr (fun _ => none)))))), (q_1, .inr (10, [.ref q_4, .int 0, .int 0, .int 0, .int 0, .int 0, .int (-1)]))] rfl hok (fun K1 hx1 hq1 => tt_Ei (t := (0, (-2147483648), 2147483647)) rfl (fun j _ => tt_ia _)) (fun K1 pl1 hok1 hx1 hq1 tr1 at1 => ?_)
  have z1_q_5 := hx1.kd hk_q_5 (by decide)
  have z1_q_6 := hx1.kd hk_q_6 (by decide)
  have z1_q_7 := hx1.kd hk_q_7 (by decide)
  have hok := hok1
  refine tt_prom (k := 10) [(h0, .inr (11, [.ref q_1, .int 0, .int (-1), .ref q_5, .ref q_6, .ref q_7, .ref q_8, .int 0, .int 0, .ref q_9])), (q_9, .inr (6, [.ref q_12, .int 0, .ref q_13])), (q_13, .inl (cA 0, 20, .inl (fun _ => 0))), (q_12, .inl (cA 0, 1300, .inl (fun _ => 0))), (q_8, .inl (cA 5, 10, .inr (.inr (.inr (.inr (fun _ => none))))))] rfl hok (fun K1 hx2 hq2 => tt_Eo (fts := [(2, 11, 0), (0, 0, 400), (0, 0, 400), (0, 0, 400), (0, 0, 400), (0, (-2147483648), 2147483647), (0, (-2147483648), 2147483647)]) rfl ⟨tt_rv (hx2.kd hq1 (by decide)), tt_iv (by decide) (by decide), tt_iv (by decide) (by decide), tt_iv (by decide) (by decide), tt_iv (by decide) (by decide), tt_ia _, tt_ia _, trivial⟩) (fun K1 pl1 hok1 hx2 hq2 tr2 at2 => ?_)
  have z2_q_5 := hx2.kd z1_q_5 (by decide)
  have z2_q_6 := hx2.kd z1_q_6 (by decide)
  have z2_q_7 := hx2.kd z1_q_7 (by decide)
  have z2_q_4 := hx2.kd hq1 (by decide)
  have hok := hok1
  have w2_held := at2 _ 1 _ _ rfl rfl
  refine tt_prom (k := 16) [(h0, .inr (11, [.ref q_1, .int 0, .int (-1), .ref q_5, .ref q_6, .ref q_7, .ref q_8, .int 0, .int 0, .ref q_9])), (q_9, .inr (6, [.ref q_12, .int 0, .ref q_13])), (q_13, .inl (cA 0, 20, .inl (fun _ => 0))), (q_12, .inl (cA 0, 1300, .inl (fun _ => 0)))] rfl hok (fun K1 hx3 hq3 => tt_Eq (t := (3, 1, 0)) rfl (fun j _ => tt_nv)) (fun K1 pl1 hok1 hx3 hq3 tr3 at3 => ?_)
  have z3_q_5 := hx3.kd z2_q_5 (by decide)
  have z3_q_6 := hx3.kd z2_q_6 (by decide)
  have z3_q_7 := hx3.kd z2_q_7 (by decide)
  have z3_q_4 := hx3.kd z2_q_4 (by decide)
  have z3_q_1 := hx3.kd hq2 (by decide)
  have hok := hok1
  have w3_held := tr3 _ _ _ w2_held
  refine tt_prom (k := 13) [(h0, .inr (11, [.ref q_1, .int 0, .int (-1), .ref q_5, .ref q_6, .ref q_7, .ref q_8, .int 0, .int 0, .ref q_9])), (q_9, .inr (6, [.ref q_12, .int 0, .ref q_13])), (q_13, .inl (cA 0, 20, .inl (fun _ => 0)))] rfl hok (fun K1 hx4 hq4 => tt_Ei (t := (0, (-2147483648), 2147483647)) rfl (fun j _ => tt_ia _)) (fun K1 pl1 hok1 hx4 hq4 tr4 at4 => ?_)
  have z4_q_5 := hx4.kd z3_q_5 (by decide)
  have z4_q_6 := hx4.kd z3_q_6 (by decide)
  have z4_q_7 := hx4.kd z3_q_7 (by decide)
  have z4_q_4 := hx4.kd z3_q_4 (by decide)
  have z4_q_1 := hx4.kd z3_q_1 (by decide)
  have z4_q_8 := hx4.kd hq3 (by decide)
  have hok := hok1
  have w4_held := tr4 _ _ _ w3_held
  refine tt_prom (k := 14) [(h0, .inr (11, [.ref q_1, .int 0, .int (-1), .ref q_5, .ref q_6, .ref q_7, .ref q_8, .int 0, .int 0, .ref q_9])), (q_9, .inr (6, [.ref q_12, .int 0, .ref q_13]))] rfl hok (fun K1 hx5 hq5 => tt_Ei (t := (0, (-2147483648), 2147483647)) rfl (fun j _ => tt_ia _)) (fun K1 pl1 hok1 hx5 hq5 tr5 at5 => ?_)
  have z5_q_5 := hx5.kd z4_q_5 (by decide)
  have z5_q_6 := hx5.kd z4_q_6 (by decide)
  have z5_q_7 := hx5.kd z4_q_7 (by decide)
  have z5_q_4 := hx5.kd z4_q_4 (by decide)
  have z5_q_1 := hx5.kd z4_q_1 (by decide)
  have z5_q_8 := hx5.kd z4_q_8 (by decide)
  have z5_q_12 := hx5.kd hq4 (by decide)
  have hok := hok1
  have w5_held := tr5 _ _ _ w4_held
  refine tt_prom (k := 12) [(h0, .inr (11, [.ref q_1, .int 0, .int (-1), .ref q_5, .ref q_6, .ref q_7, .ref q_8, .int 0, .int 0, .ref q_9]))] rfl hok (fun K1 hx6 hq6 => tt_Eo (fts := [(2, 13, 0), (0, 0, 1300), (2, 14, 0)]) rfl ⟨tt_rv (hx6.kd z5_q_12 (by decide)), tt_iv (by decide) (by decide), tt_rv (hx6.kd hq5 (by decide)), trivial⟩) (fun K1 pl1 hok1 hx6 hq6 tr6 at6 => ?_)
  have z6_q_5 := hx6.kd z5_q_5 (by decide)
  have z6_q_6 := hx6.kd z5_q_6 (by decide)
  have z6_q_7 := hx6.kd z5_q_7 (by decide)
  have z6_q_4 := hx6.kd z5_q_4 (by decide)
  have z6_q_1 := hx6.kd z5_q_1 (by decide)
  have z6_q_8 := hx6.kd z5_q_8 (by decide)
  have z6_q_12 := hx6.kd z5_q_12 (by decide)
  have z6_q_13 := hx6.kd hq5 (by decide)
  have hok := hok1
  have w6_held := tr6 _ _ _ w5_held
  refine tt_prom (k := 15) [] rfl hok (fun K1 hx7 hq7 => tt_Eo (fts := [(2, 10, 0), (0, (-2147483648), 2147483647), (0, (-2147483648), 2147483647), (2, 1, 0), (2, 1, 0), (2, 9, 0), (2, 16, 0), (0, 0, 9), (0, 0, 10), (2, 12, 0)]) rfl ⟨tt_rv (hx7.kd z6_q_1 (by decide)), tt_ia _, tt_ia _, tt_rv (hx7.kd z6_q_5 (by decide)), tt_rv (hx7.kd z6_q_6 (by decide)), tt_rv (hx7.kd z6_q_7 (by decide)), tt_rv (hx7.kd z6_q_8 (by decide)), tt_iv (by decide) (by decide), tt_iv (by decide) (by decide), tt_rv (hx7.kd hq6 (by decide)), trivial⟩) (fun K1 pl1 hok1 hx7 hq7 tr7 at7 => ?_)
  have z7_q_5 := hx7.kd z6_q_5 (by decide)
  have z7_q_6 := hx7.kd z6_q_6 (by decide)
  have z7_q_7 := hx7.kd z6_q_7 (by decide)
  have z7_q_4 := hx7.kd z6_q_4 (by decide)
  have z7_q_1 := hx7.kd z6_q_1 (by decide)
  have z7_q_8 := hx7.kd z6_q_8 (by decide)
  have z7_q_12 := hx7.kd z6_q_12 (by decide)
  have z7_q_13 := hx7.kd z6_q_13 (by decide)
  have z7_q_9 := hx7.kd hq6 (by decide)
  have hok := hok1
  have w7_held := tr7 _ _ _ w6_held
  have w7_tok := at7 _ 0 _ _ rfl rfl
  have w7_pcode := at7 _ 1 _ _ rfl rfl
  have w7_ppos := at7 _ 2 _ _ rfl rfl
  exact jj_vretI C ⟨rfl, _, hq7, hok1, _, z7_q_1, w7_tok, w7_held, w7_pcode, w7_ppos⟩ dX10_init_88 (jj_le rfl) (jj_le rfl)
