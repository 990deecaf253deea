theorem tt_els {f : Nat → Option Nat} {K K1 : Nat → Nat} {i q k : Nat} (hi : i < 2 ^ 31) (hx : tt_ex K K1) (hk : k ≠ 0) (hq : K1 q = k) (h : ∀ j : Nat, j < i → ∃ a : Nat, f j = some a ∧ K a = k) : ∀ j : Nat, j < i + 1 → ∃ a : Nat, va_up f (nI i).toNatClampNeg (some q) j = some a ∧ K1 a = k := by
  intro j hj
  rw [nI_clamp hi]
  by_cases h1 : j = i
  · subst h1; exact ⟨q, by rw [va_up_self], hq⟩
  · obtain ⟨a, h2, h3⟩ := h j (by omega)
    exact ⟨a, by rw [va_up_ne _ _ h1]; exact h2, hx.kd h3 hk⟩
theorem tt_elx {f : Nat → Option Nat} {K K1 : Nat → Nat} {i k : Nat} (hx : tt_ex K K1) (hk : k ≠ 0) (h : ∀ j : Nat, j < i → ∃ a : Nat, f j = some a ∧ K a = k) : ∀ j : Nat, j < i → ∃ a : Nat, f j = some a ∧ K1 a = k := by
  intro j hj
  obtain ⟨a, h2, h3⟩ := h j hj
  exact ⟨a, h2, hx.kd h3 hk⟩
theorem tt_elv {f : Nat → Option Nat} {K : Nat → Nat} {n k : Nat} {z u : Int} (hz : z.toNat = k) (h : ∀ j : Nat, j < n → ∃ a : Nat, f j = some a ∧ K a = k) : ∀ j : Nat, j < n → tt_V K (2, z, u) (va_rf (f j)) := by
  intro j hj
  obtain ⟨a, h2, h3⟩ := h j hj
  rw [h2]; exact tt_rv (h3.trans hz.symm)
section TP
variable {p : Program} {l : Launch} {e : Env} {R : Room} {s : State} {m : MethodId} {args : Array Value} {below : List Frame} {meth : Method} {c : Code}
variable {nL : Nat} {A : Nat → Prop} {Q : State → Prop} {cells slots pc : Nat} {lv : List (Nat × Value)} {st : List Value} {D : va_G} {X X2 pl : va_W}
theorem tt_perm (is : List Nat) (hs : jj_pk is X = some X2) (hn : va_nd is = true) (kk : jj_J p l e R s m args below meth c nL A Q (jj_X D A (X2 ++ pl)) cells slots pc lv st) : jj_J p l e R s m args below meth c nL A Q (jj_X D A (X ++ pl)) cells slots pc lv st :=
  fun H locs ls hW hS hl => kk H locs ls ⟨hW.1.part is (jj_pk_eq hs), hW.2.part is hn (jj_pk_eq hs)⟩ hS hl
end TP
theorem jw_882 : Cond.methodLink RX0 3 objectInit ∈ jj_G := jj_t1 (List.mem_of_getElem? (i := 76) (by decide +kernel)) rfl
theorem jw_883 : Cond.instanceMethod objectInit ∈ jj_G := jj_t1 (List.mem_of_getElem? (i := 33) (by decide +kernel)) rfl
theorem jw_884 : Cond.code objectInit ⟨#[0xb1]⟩ 1 none ∈ jj_G := jj_t1 (List.mem_of_getElem? (i := 34) (by decide +kernel)) rfl
theorem jw_885 : Cond.arrayClass .long ∈ jj_G := jj_t1 (List.mem_of_getElem? (i := 124) (by decide +kernel)) rfl
theorem jw_886 : Cond.classLink RX0 46 RX8 ∈ jj_G := jj_t1 (List.mem_of_getElem? (i := 77) (by decide +kernel)) rfl
theorem jw_887 : Cond.classLink RX0 52 RX4 ∈ jj_G := jj_t1 (List.mem_of_getElem? (i := 79) (by decide +kernel)) rfl
theorem jw_888 : Cond.classLink RX0 58 RX6 ∈ jj_G := jj_t1 (List.mem_of_getElem? (i := 81) (by decide +kernel)) rfl
theorem jw_889 : Cond.instantiable RX6 5 ∈ jj_G := jj_t1 (List.mem_of_getElem? (i := 170) (by decide +kernel)) rfl
theorem jw_890 : Cond.methodLink RX6 1 objectInit ∈ jj_G := jj_t1 (List.mem_of_getElem? (i := 174) (by decide +kernel)) rfl
theorem jw_891 : Cond.code yX6_init cX6_init 1 none ∈ jj_G := jj_t1 (List.mem_of_getElem? (i := 173) (by decide +kernel)) rfl
theorem jw_892 : Cond.instanceMethod yX6_init ∈ jj_G := jj_t1 (List.mem_of_getElem? (i := 172) (by decide +kernel)) rfl
theorem jn_X6_init : jj_N yX6_init 0 := by unfold jj_N; decide +kernel
theorem jw_894 : Cond.instantiable RX4 6 ∈ jj_G := jj_t1 (List.mem_of_getElem? (i := 125) (by decide +kernel)) rfl
theorem jw_895 : Cond.methodLink RX4 1 objectInit ∈ jj_G := jj_t1 (List.mem_of_getElem? (i := 129) (by decide +kernel)) rfl
theorem jw_896 : Cond.code yX4_init cX4_init 1 none ∈ jj_G := jj_t1 (List.mem_of_getElem? (i := 128) (by decide +kernel)) rfl
theorem jw_897 : Cond.instanceMethod yX4_init ∈ jj_G := jj_t1 (List.mem_of_getElem? (i := 127) (by decide +kernel)) rfl
theorem jn_X4_init : jj_N yX4_init 0 := by unfold jj_N; decide +kernel
theorem jw_899 : Cond.instantiable RX8 5 ∈ jj_G := jj_t1 (List.mem_of_getElem? (i := 83) (by decide +kernel)) rfl
theorem jw_900 : Cond.methodLink RX8 3 objectInit ∈ jj_G := jj_t1 (List.mem_of_getElem? (i := 87) (by decide +kernel)) rfl
theorem jw_901 : Cond.code yX8_init cX8_init 1 none ∈ jj_G := jj_t1 (List.mem_of_getElem? (i := 86) (by decide +kernel)) rfl
theorem jw_902 : Cond.instanceMethod yX8_init ∈ jj_G := jj_t1 (List.mem_of_getElem? (i := 85) (by decide +kernel)) rfl
theorem jn_X8_init : jj_N yX8_init 0 := by unfold jj_N; decide +kernel
theorem jw_904 : Cond.code yX0_init cX0_init 2 none ∈ jj_G := jj_t1 (List.mem_of_getElem? (i := 75) (by decide +kernel)) rfl
set_option maxHeartbeats 4000000 in
set_option maxRecDepth 100000 in
theorem ct_X6_init_1 {l : Launch} (hl : l.stackTraces = false) (D : va_G) (cA : Nat → ClassId) (ak : (Nat → Nat) × (Nat → Nat)) (h0 : Nat) : jj_I l D cA ak yX6_init (.code yX6_init cX6_init 1 none) 1 12 0 0 [(h0, .inr (7, [.int 0, .int 0, .int 0, .long 0, .long 0]))] [.ref h0] (fun (w : va_W) (r : Option Value) => (w = [(h0, .inr (7, [.int 0, .int 0, .int 0, .long 0, .long 0]))] ∧ r = none)) := by
  refine jj_startI hl (by decide) jw_891 (jj_le rfl) ?_
  intro p e s m args below meth c A hargs hA C hmn
  refine jj_aload_n C dX6_init_0 rfl ?_
  refine jj_objInit C jw_890 jw_883 jw_884 (jj_le rfl) (jj_le rfl) dX6_init_1 ?_
  refine jj_aload_n C dX6_init_4 rfl ?_
  refine jj_iconst (v := 0) C dX6_init_5 (by decide) ?_
  refine jj_put C jk_7 0 (by decide) jw_206 rfl 0 rfl rfl rfl rfl rfl dX6_init_6 ?_
  refine jj_aload_n C dX6_init_9 rfl ?_
  refine jj_iconst (v := 0) C dX6_init_10 (by decide) ?_
  refine jj_put C jk_7 1 (by decide) jw_207 rfl 0 rfl rfl rfl rfl rfl dX6_init_11 ?_
  refine jj_aload_n C dX6_init_14 rfl ?_
  refine jj_iconst (v := 0) C dX6_init_15 (by decide) ?_
  refine jj_put C jk_7 2 (by decide) jw_208 rfl 0 rfl rfl rfl rfl rfl dX6_init_16 ?_
  refine jj_aload_n C dX6_init_19 rfl ?_
  refine jj_lconst (v := 0) C dX6_init_20 (by decide) ?_
  refine jj_put C jk_7 3 (by decide) jw_209 rfl 0 rfl rfl rfl rfl rfl dX6_init_21 ?_
  refine jj_aload_n C dX6_init_24 rfl ?_
  refine jj_lconst (v := 0) C dX6_init_25 (by decide) ?_
  refine jj_put C jk_7 4 (by decide) jw_210 rfl 0 rfl rfl rfl rfl rfl dX6_init_26 ?_
  exact jj_vretI C ⟨rfl, rfl⟩ dX6_init_29 (jj_le rfl) (jj_le rfl)

set_option maxHeartbeats 4000000 in
set_option maxRecDepth 100000 in
theorem ct_X4_init_1 {l : Launch} (hl : l.stackTraces = false) (D : va_G) (cA : Nat → ClassId) (ak : (Nat → Nat) × (Nat → Nat)) (h0 : Nat) : jj_I l D cA ak yX4_init (.code yX4_init cX4_init 1 none) 1 12 0 0 [(h0, .inr (5, [.int 0, .int 0, .int 0, .long 0, .long 0, .long 0]))] [.ref h0] (fun (w : va_W) (r : Option Value) => (w = [(h0, .inr (5, [.int 0, .int 0, .int 0, .long 0, .long 0, .long 0]))] ∧ r = none)) := by
  refine jj_startI hl (by decide) jw_896 (jj_le rfl) ?_
  intro p e s m args below meth c A hargs hA C hmn
  refine jj_aload_n C dX4_init_0 rfl ?_
  refine jj_objInit C jw_895 jw_883 jw_884 (jj_le rfl) (jj_le rfl) dX4_init_1 ?_
  refine jj_aload_n C dX4_init_4 rfl ?_
  refine jj_iconst (v := 0) C dX4_init_5 (by decide) ?_
  refine jj_put C jk_5 0 (by decide) jw_218 rfl 0 rfl rfl rfl rfl rfl dX4_init_6 ?_
  refine jj_aload_n C dX4_init_9 rfl ?_
  refine jj_iconst (v := 0) C dX4_init_10 (by decide) ?_
  refine jj_put C jk_5 1 (by decide) jw_219 rfl 0 rfl rfl rfl rfl rfl dX4_init_11 ?_
  refine jj_aload_n C dX4_init_14 rfl ?_
  refine jj_iconst (v := 0) C dX4_init_15 (by decide) ?_
  refine jj_put C jk_5 2 (by decide) jw_220 rfl 0 rfl rfl rfl rfl rfl dX4_init_16 ?_
  refine jj_aload_n C dX4_init_19 rfl ?_
  refine jj_lconst (v := 0) C dX4_init_20 (by decide) ?_
  refine jj_put C jk_5 3 (by decide) jw_221 rfl 0 rfl rfl rfl rfl rfl dX4_init_21 ?_
  refine jj_aload_n C dX4_init_24 rfl ?_
  refine jj_lconst (v := 0) C dX4_init_25 (by decide) ?_
  refine jj_put C jk_5 4 (by decide) jw_222 rfl 0 rfl rfl rfl rfl rfl dX4_init_26 ?_
  refine jj_aload_n C dX4_init_29 rfl ?_
  refine jj_lconst (v := 0) C dX4_init_30 (by decide) ?_
  refine jj_put C jk_5 5 (by decide) jw_223 rfl 0 rfl rfl rfl rfl rfl dX4_init_31 ?_
  exact jj_vretI C ⟨rfl, rfl⟩ dX4_init_34 (jj_le rfl) (jj_le rfl)

set_option maxHeartbeats 4000000 in
set_option maxRecDepth 100000 in
theorem ct_X8_init_1 {l : Launch} (hl : l.stackTraces = false) (D : va_G) (cA : Nat → ClassId) (ak : (Nat → Nat) × (Nat → Nat)) (h0 : Nat) : jj_I l D cA ak yX8_init (.code yX8_init cX8_init 1 none) 1 12 0 0 [(h0, .inr (9, [.int 0, .int 0, .long 0, .long 0, .long 0]))] [.ref h0] (fun (w : va_W) (r : Option Value) => (w = [(h0, .inr (9, [.int 0, .int 0, .long 0, .long 0, .long 1000000]))] ∧ r = none)) := by
  refine jj_startI hl (by decide) jw_901 (jj_le rfl) ?_
  intro p e s m args below meth c A hargs hA C hmn
  refine jj_aload_n C dX8_init_0 rfl ?_
  refine jj_objInit C jw_900 jw_883 jw_884 (jj_le rfl) (jj_le rfl) dX8_init_1 ?_
  refine jj_aload_n C dX8_init_4 rfl ?_
  refine jj_iconst (v := 0) C dX8_init_5 (by decide) ?_
  refine jj_put C jk_9 0 (by decide) jw_93 rfl 0 rfl rfl rfl rfl rfl dX8_init_6 ?_
  refine jj_aload_n C dX8_init_9 rfl ?_
  refine jj_iconst (v := 0) C dX8_init_10 (by decide) ?_
  refine jj_put C jk_9 1 (by decide) jw_100 rfl 0 rfl rfl rfl rfl rfl dX8_init_11 ?_
  refine jj_aload_n C dX8_init_14 rfl ?_
  refine jj_lconst (v := 0) C dX8_init_15 (by decide) ?_
  refine jj_put C jk_9 2 (by decide) jw_101 rfl 0 rfl rfl rfl rfl rfl dX8_init_16 ?_
  refine jj_aload_n C dX8_init_19 rfl ?_
  refine jj_lconst (v := 0) C dX8_init_20 (by decide) ?_
  refine jj_put C jk_9 3 (by decide) jw_102 rfl 0 rfl rfl rfl rfl rfl dX8_init_21 ?_
  refine jj_aload_n C dX8_init_24 rfl ?_
  refine jj_ldc2 (v := 1000000) C dX8_init_25 jw_168 ?_
  refine jj_put C jk_9 4 (by decide) jw_103 rfl 0 rfl rfl rfl rfl rfl dX8_init_28 ?_
  exact jj_vretI C ⟨rfl, rfl⟩ dX8_init_31 (jj_le rfl) (jj_le rfl)

set_option maxHeartbeats 4000000 in
set_option maxRecDepth 100000 in
theorem tc_X0_init {l : Launch} (hl : l.stackTraces = false) (D : va_G) (cA : Nat → ClassId) (ak : (Nat → Nat) × (Nat → Nat)) (h0 : Nat) : jj_I l D cA ak yX0_init (.code yX0_init cX0_init 2 none) 2 32 62 394 [(h0, .inr (2, [.int 0, .int 0, .int 0, .int 0, .int 0, .int 0, .int 0, .int 0, .int 0, .int 0, .null, .null, .null, .null]))] [.ref h0] (fun (w : va_W) (r : Option Value) => r = none ∧ ∃ Kn : Nat → Nat, Kn h0 = 1 ∧ tt_ok tt_tk cA Kn w) := by
  refine jj_startI hl (by decide) jw_904 (jj_le rfl) ?_
  intro p e s m args below meth c A hargs hA C hmn
  refine jj_aload_n C dX0_init_0 rfl ?_
  refine jj_objInit C jw_882 jw_883 jw_884 (jj_le rfl) (jj_le rfl) dX0_init_1 ?_
  refine jj_aload_n C dX0_init_4 rfl ?_
  refine jj_iconst (v := 1) C dX0_init_5 (by decide) ?_
  refine jj_put C jk_2 0 (by decide) jw_192 rfl 0 rfl rfl rfl rfl rfl dX0_init_6 ?_
  refine jj_aload_n C dX0_init_9 rfl ?_
  refine jj_iconst (v := 0) C dX0_init_10 (by decide) ?_
  refine jj_put C jk_2 1 (by decide) jw_193 rfl 0 rfl rfl rfl rfl rfl dX0_init_11 ?_
  refine jj_aload_n C dX0_init_14 rfl ?_
  refine jj_iconst (v := 0) C dX0_init_15 (by decide) ?_
  refine jj_put C jk_2 2 (by decide) jw_194 rfl 0 rfl rfl rfl rfl rfl dX0_init_16 ?_
  refine jj_aload_n C dX0_init_19 rfl ?_
  refine jj_iconst (v := 0) C dX0_init_20 (by decide) ?_
  refine jj_put C jk_2 3 (by decide) jw_195 rfl 0 rfl rfl rfl rfl rfl dX0_init_21 ?_
  refine jj_aload_n C dX0_init_24 rfl ?_
  refine jj_bipush (v := 100) C dX0_init_25 (by decide) ?_
  refine jj_put C jk_2 4 (by decide) jw_196 rfl 0 rfl rfl rfl rfl rfl dX0_init_27 ?_
  refine jj_aload_n C dX0_init_30 rfl ?_
  refine jj_iconst (v := 0) C dX0_init_31 (by decide) ?_
  refine jj_put C jk_2 5 (by decide) jw_197 rfl 0 rfl rfl rfl rfl rfl dX0_init_32 ?_
  refine jj_aload_n C dX0_init_35 rfl ?_
  refine jj_iconst (v := 0) C dX0_init_36 (by decide) ?_
  refine jj_put C jk_2 6 (by decide) jw_198 rfl 0 rfl rfl rfl rfl rfl dX0_init_37 ?_
  refine jj_aload_n C dX0_init_40 rfl ?_
  refine jj_iconst (v := 0) C dX0_init_41 (by decide) ?_
  refine jj_put C jk_2 7 (by decide) jw_134 rfl 0 rfl rfl rfl rfl rfl dX0_init_42 ?_
  refine jj_aload_n C dX0_init_45 rfl ?_
  refine jj_iconst (v := 0) C dX0_init_46 (by decide) ?_
  refine jj_put C jk_2 8 (by decide) jw_199 rfl 0 rfl rfl rfl rfl rfl dX0_init_47 ?_
  refine jj_aload_n C dX0_init_50 rfl ?_
  refine jj_iconst (v := 0) C dX0_init_51 (by decide) ?_
  refine jj_put C jk_2 9 (by decide) jw_200 rfl 0 rfl rfl rfl rfl rfl dX0_init_52 ?_
  refine jj_aload_n C dX0_init_55 rfl ?_
  refine jj_bipush (v := 6) C dX0_init_56 (by decide) ?_
  refine jj_newa (atype := .long) (fty := .long) (N' := 6) C 2 rfl rfl jw_885 (a0 := (6, .inr (.inl (fun _ => 0)))) (fun _ => rfl) (by decide) (by decide) (jj_le rfl) (jj_le rfl) (jj_le rfl) dX0_init_58 (fun q_1 => ?_)
  refine jj_apd rfl ?_
  refine jj_putF C jk_2 10 (by decide) jw_201 rfl hmn rfl 0 rfl rfl rfl rfl rfl dX0_init_60 ?_
  refine jj_aload_n C dX0_init_63 rfl ?_
  refine jj_bipush (v := 6) C dX0_init_64 (by decide) ?_
  refine jj_newq (N' := 6) C 8 rfl jw_886 (by decide) (by decide) (by decide) (jj_le rfl) (jj_le rfl) (jj_le rfl) dX0_init_66 (fun q_2 => ?_)
  refine jj_apd rfl ?_
  refine jj_putF C jk_2 11 (by decide) jw_135 rfl hmn rfl 0 rfl rfl rfl rfl rfl dX0_init_69 ?_
  refine jj_aload_n C dX0_init_72 rfl ?_
  refine jj_bipush (v := 40) C dX0_init_73 (by decide) ?_
  refine jj_newq (N' := 40) C 6 rfl jw_887 (by decide) (by decide) (by decide) (jj_le rfl) (jj_le rfl) (jj_le rfl) dX0_init_75 (fun q_3 => ?_)
  refine jj_apd rfl ?_
  refine jj_putF C jk_2 12 (by decide) jw_214 rfl hmn rfl 0 rfl rfl rfl rfl rfl dX0_init_78 ?_
  refine jj_aload_n C dX0_init_81 rfl ?_
  refine jj_bipush (v := 12) C dX0_init_82 (by decide) ?_
  refine jj_newq (N' := 12) C 7 rfl jw_888 (by decide) (by decide) (by decide) (jj_le rfl) (jj_le rfl) (jj_le rfl) dX0_init_84 (fun q_4 => ?_)
  refine jj_apd rfl ?_
  refine jj_putF C jk_2 13 (by decide) jw_202 rfl hmn rfl 0 rfl rfl rfl rfl rfl dX0_init_87 ?_
  refine jj_iconst (v := 0) C dX0_init_90 (by decide) ?_
  refine jj_istore_n C dX0_init_91 (by decide) rfl ?_
  have hL1 : ∀ (n i : Nat) (f_s : Nat → Option Nat) (K : Nat → Nat) (pl : va_W), i + n = 6 → tt_ok tt_tk cA K pl → (∀ j : Nat, j < i → ∃ a : Nat, f_s j = some a ∧ K a = 2) → jj_J p l e (jj_rm 2 32 62 394) s m args below meth c 2 A (MQ below (jj_q D A (fun (w : va_W) (r : Option Value) => r = none ∧ ∃ Kn : Nat → Nat, Kn h0 = 1 ∧ tt_ok tt_tk cA Kn w)) args s 62 394 A) (jj_X D A ([(h0, .inr (2, [.int 1, .int 0, .int 0, .int 0, .int 100, .int 0, .int 0, .int 0, .int 0, .int 0, .ref q_1, .ref q_2, .ref q_3, .ref q_4])), (q_1, .inl (cA 2, 6, .inr (.inl (fun _ => 0)))), (q_2, .inl (cA 8, 6, .inr (.inr (.inr (.inr f_s))))), (q_3, .inl (cA 6, 40, .inr (.inr (.inr (.inr (fun _ => none)))))), (q_4, .inl (cA 7, 12, .inr (.inr (.inr (.inr (fun _ => none))))))] ++ pl)) (4 + 1 * i) (64 + 5 * i) 92 [(1, .int (nI i)), (0, .ref h0)] [] := by
    intro n
    induction n with
    | zero =>
      intro i f_s K pl hin hok h_s
      obtain rfl : i = 6 := by omega
      show jj_J p l e (jj_rm 2 32 62 394) s m args below meth c 2 A (MQ below (jj_q D A (fun (w : va_W) (r : Option Value) => r = none ∧ ∃ Kn : Nat → Nat, Kn h0 = 1 ∧ tt_ok tt_tk cA Kn w)) args s 62 394 A) (jj_X D A ([(h0, .inr (2, [.int 1, .int 0, .int 0, .int 0, .int 100, .int 0, .int 0, .int 0, .int 0, .int 0, .ref q_1, .ref q_2, .ref q_3, .ref q_4])), (q_1, .inl (cA 2, 6, .inr (.inl (fun _ => 0)))), (q_2, .inl (cA 8, 6, .inr (.inr (.inr (.inr f_s))))), (q_3, .inl (cA 6, 40, .inr (.inr (.inr (.inr (fun _ => none)))))), (q_4, .inl (cA 7, 12, .inr (.inr (.inr (.inr (fun _ => none))))))] ++ pl)) 10 94 92 [(1, .int 6), (0, .ref h0)] []
      refine jj_iload_n C dX0_init_92 rfl ?_
      refine jj_bipush (v := 6) C dX0_init_93 (by decide) ?_
      refine jj_icmp_geT (tgt := 117) C dX0_init_95 (by decide) (by decide) ?_
      refine jj_iconst (v := 0) C dX0_init_117 (by decide) ?_
      refine jj_istore_n C dX0_init_118 (by decide) rfl ?_
      have hL2 : ∀ (n i : Nat) (f_l : Nat → Option Nat) (K : Nat → Nat) (pl : va_W), i + n = 40 → tt_ok tt_tk cA K pl → (∀ j : Nat, j < i → ∃ a : Nat, f_l j = some a ∧ K a = 3) → (∀ j : Nat, j < 6 → ∃ a : Nat, f_s j = some a ∧ K a = 2) → jj_J p l e (jj_rm 2 32 62 394) s m args below meth c 2 A (MQ below (jj_q D A (fun (w : va_W) (r : Option Value) => r = none ∧ ∃ Kn : Nat → Nat, Kn h0 = 1 ∧ tt_ok tt_tk cA Kn w)) args s 62 394 A) (jj_X D A ([(h0, .inr (2, [.int 1, .int 0, .int 0, .int 0, .int 100, .int 0, .int 0, .int 0, .int 0, .int 0, .ref q_1, .ref q_2, .ref q_3, .ref q_4])), (q_1, .inl (cA 2, 6, .inr (.inl (fun _ => 0)))), (q_2, .inl (cA 8, 6, .inr (.inr (.inr (.inr f_s))))), (q_3, .inl (cA 6, 40, .inr (.inr (.inr (.inr f_l))))), (q_4, .inl (cA 7, 12, .inr (.inr (.inr (.inr (fun _ => none))))))] ++ pl)) (10 + 1 * i) (94 + 6 * i) 119 [(1, .int (nI i)), (0, .ref h0)] [] := by
        intro n
        induction n with
        | zero =>
          intro i f_l K pl hin hok h_l h_s
          obtain rfl : i = 40 := by omega
          show jj_J p l e (jj_rm 2 32 62 394) s m args below meth c 2 A (MQ below (jj_q D A (fun (w : va_W) (r : Option Value) => r = none ∧ ∃ Kn : Nat → Nat, Kn h0 = 1 ∧ tt_ok tt_tk cA Kn w)) args s 62 394 A) (jj_X D A ([(h0, .inr (2, [.int 1, .int 0, .int 0, .int 0, .int 100, .int 0, .int 0, .int 0, .int 0, .int 0, .ref q_1, .ref q_2, .ref q_3, .ref q_4])), (q_1, .inl (cA 2, 6, .inr (.inl (fun _ => 0)))), (q_2, .inl (cA 8, 6, .inr (.inr (.inr (.inr f_s))))), (q_3, .inl (cA 6, 40, .inr (.inr (.inr (.inr f_l))))), (q_4, .inl (cA 7, 12, .inr (.inr (.inr (.inr (fun _ => none))))))] ++ pl)) 50 334 119 [(1, .int 40), (0, .ref h0)] []
          refine jj_iload_n C dX0_init_119 rfl ?_
          refine jj_bipush (v := 40) C dX0_init_120 (by decide) ?_
          refine jj_icmp_geT (tgt := 144) C dX0_init_122 (by decide) (by decide) ?_
          refine jj_iconst (v := 0) C dX0_init_144 (by decide) ?_
          refine jj_istore_n C dX0_init_145 (by decide) rfl ?_
          have hL3 : ∀ (n i : Nat) (f_r : Nat → Option Nat) (K : Nat → Nat) (pl : va_W), i + n = 12 → tt_ok tt_tk cA K pl → (∀ j : Nat, j < i → ∃ a : Nat, f_r j = some a ∧ K a = 4) → (∀ j : Nat, j < 6 → ∃ a : Nat, f_s j = some a ∧ K a = 2) → (∀ j : Nat, j < 40 → ∃ a : Nat, f_l j = some a ∧ K a = 3) → jj_J p l e (jj_rm 2 32 62 394) s m args below meth c 2 A (MQ below (jj_q D A (fun (w : va_W) (r : Option Value) => r = none ∧ ∃ Kn : Nat → Nat, Kn h0 = 1 ∧ tt_ok tt_tk cA Kn w)) args s 62 394 A) (jj_X D A ([(h0, .inr (2, [.int 1, .int 0, .int 0, .int 0, .int 100, .int 0, .int 0, .int 0, .int 0, .int 0, .ref q_1, .ref q_2, .ref q_3, .ref q_4])), (q_1, .inl (cA 2, 6, .inr (.inl (fun _ => 0)))), (q_2, .inl (cA 8, 6, .inr (.inr (.inr (.inr f_s))))), (q_3, .inl (cA 6, 40, .inr (.inr (.inr (.inr f_l))))), (q_4, .inl (cA 7, 12, .inr (.inr (.inr (.inr f_r)))))] ++ pl)) (50 + 1 * i) (334 + 5 * i) 146 [(1, .int (nI i)), (0, .ref h0)] [] := by
            intro n
            induction n with
            | zero =>
              intro i f_r K pl hin hok h_r h_s h_l
              obtain rfl : i = 12 := by omega
              show jj_J p l e (jj_rm 2 32 62 394) s m args below meth c 2 A (MQ below (jj_q D A (fun (w : va_W) (r : Option Value) => r = none ∧ ∃ Kn : Nat → Nat, Kn h0 = 1 ∧ tt_ok tt_tk cA Kn w)) args s 62 394 A) (jj_X D A ([(h0, .inr (2, [.int 1, .int 0, .int 0, .int 0, .int 100, .int 0, .int 0, .int 0, .int 0, .int 0, .ref q_1, .ref q_2, .ref q_3, .ref q_4])), (q_1, .inl (cA 2, 6, .inr (.inl (fun _ => 0)))), (q_2, .inl (cA 8, 6, .inr (.inr (.inr (.inr f_s))))), (q_3, .inl (cA 6, 40, .inr (.inr (.inr (.inr f_l))))), (q_4, .inl (cA 7, 12, .inr (.inr (.inr (.inr f_r)))))] ++ pl)) 62 394 146 [(1, .int 12), (0, .ref h0)] []
              refine jj_iload_n C dX0_init_146 rfl ?_
              refine jj_bipush (v := 12) C dX0_init_147 (by decide) ?_
              refine jj_icmp_geT (tgt := 171) C dX0_init_149 (by decide) (by decide) ?_
              show jj_J p l e (jj_rm 2 32 62 394) s m args below meth c 2 A (MQ below (jj_q D A (fun (w : va_W) (r : Option Value) => r = none ∧ ∃ Kn : Nat → Nat, Kn h0 = 1 ∧ tt_ok tt_tk cA Kn w)) args s 62 394 A) (jj_X D A ([(h0, .inr (2, [.int 1, .int 0, .int 0, .int 0, .int 100, .int 0, .int 0, .int 0, .int 0, .int 0, .ref q_1, .ref q_2, .ref q_3, .ref q_4])), (q_1, .inl (cA 2, 6, .inr (.inl (fun _ => 0)))), (q_2, .inl (cA 8, 6, .inr (.inr (.inr (.inr f_s))))), (q_3, .inl (cA 6, 40, .inr (.inr (.inr (.inr f_l))))), (q_4, .inl (cA 7, 12, .inr (.inr (.inr (.inr f_r)))))] ++ pl)) _ _ 171 [(1, .int 12), (0, .ref h0)] []
              refine tt_perm [0, 4, 3, 2, 1] rfl (by decide) ?_
              refine tt_prom (k := 5) [(h0, .inr (2, [.int 1, .int 0, .int 0, .int 0, .int 100, .int 0, .int 0, .int 0, .int 0, .int 0, .ref q_1, .ref q_2, .ref q_3, .ref q_4])), (q_4, .inl (cA 7, 12, .inr (.inr (.inr (.inr f_r))))), (q_3, .inl (cA 6, 40, .inr (.inr (.inr (.inr f_l))))), (q_2, .inl (cA 8, 6, .inr (.inr (.inr (.inr f_s)))))] rfl hok (fun K1 hx1 hq1 => tt_El (t := (1, (-9223372036854775808), 9223372036854775807)) rfl (fun j _ => tt_ja _)) (fun K1 pl1 hok1 hx1 hq1 tr1 at1 => ?_)
              have y1_q_2 := tt_elx hx1 (by decide) h_s
              have y1_q_3 := tt_elx hx1 (by decide) h_l
              have y1_q_4 := tt_elx hx1 (by decide) h_r
              have hok := hok1
              refine tt_prom (k := 6) [(h0, .inr (2, [.int 1, .int 0, .int 0, .int 0, .int 100, .int 0, .int 0, .int 0, .int 0, .int 0, .ref q_1, .ref q_2, .ref q_3, .ref q_4])), (q_4, .inl (cA 7, 12, .inr (.inr (.inr (.inr f_r))))), (q_3, .inl (cA 6, 40, .inr (.inr (.inr (.inr f_l)))))] rfl hok (fun K1 hx2 hq2 => tt_Eq (t := (2, 2, 0)) rfl (tt_elv rfl (tt_elx hx2 (by decide) y1_q_2))) (fun K1 pl1 hok1 hx2 hq2 tr2 at2 => ?_)
              have z2_q_1 := hx2.kd hq1 (by decide)
              have y2_q_2 := tt_elx hx2 (by decide) y1_q_2
              have y2_q_3 := tt_elx hx2 (by decide) y1_q_3
              have y2_q_4 := tt_elx hx2 (by decide) y1_q_4
              have hok := hok1
              refine tt_prom (k := 7) [(h0, .inr (2, [.int 1, .int 0, .int 0, .int 0, .int 100, .int 0, .int 0, .int 0, .int 0, .int 0, .ref q_1, .ref q_2, .ref q_3, .ref q_4])), (q_4, .inl (cA 7, 12, .inr (.inr (.inr (.inr f_r)))))] rfl hok (fun K1 hx3 hq3 => tt_Eq (t := (2, 3, 0)) rfl (tt_elv rfl (tt_elx hx3 (by decide) y2_q_3))) (fun K1 pl1 hok1 hx3 hq3 tr3 at3 => ?_)
              have z3_q_1 := hx3.kd z2_q_1 (by decide)
              have z3_q_2 := hx3.kd hq2 (by decide)
              have y3_q_2 := tt_elx hx3 (by decide) y2_q_2
              have y3_q_3 := tt_elx hx3 (by decide) y2_q_3
              have y3_q_4 := tt_elx hx3 (by decide) y2_q_4
              have hok := hok1
              refine tt_prom (k := 8) [(h0, .inr (2, [.int 1, .int 0, .int 0, .int 0, .int 100, .int 0, .int 0, .int 0, .int 0, .int 0, .ref q_1, .ref q_2, .ref q_3, .ref q_4]))] rfl hok (fun K1 hx4 hq4 => tt_Eq (t := (2, 4, 0)) rfl (tt_elv rfl (tt_elx hx4 (by decide) y3_q_4))) (fun K1 pl1 hok1 hx4 hq4 tr4 at4 => ?_)
              have z4_q_1 := hx4.kd z3_q_1 (by decide)
              have z4_q_2 := hx4.kd z3_q_2 (by decide)
              have z4_q_3 := hx4.kd hq3 (by decide)
              have y4_q_2 := tt_elx hx4 (by decide) y3_q_2
              have y4_q_3 := tt_elx hx4 (by decide) y3_q_3
              have y4_q_4 := tt_elx hx4 (by decide) y3_q_4
              have hok := hok1
              refine tt_prom (k := 1) [] rfl hok (fun K1 hx5 hq5 => tt_Eo (fts := [(0, (-2147483648), 2147483647), (0, (-2147483648), 2147483647), (0, (-2147483648), 2147483647), (0, (-2147483648), 2147483647), (0, (-2147483648), 2147483647), (0, (-2147483648), 2147483647), (0, (-2147483648), 2147483647), (0, 0, 6), (0, 0, 40), (0, 0, 12), (2, 5, 0), (2, 6, 0), (2, 7, 0), (2, 8, 0)]) rfl ⟨tt_ia _, tt_ia _, tt_ia _, tt_ia _, tt_ia _, tt_ia _, tt_ia _, tt_iv (by decide) (by decide), tt_iv (by decide) (by decide), tt_iv (by decide) (by decide), tt_rv (hx5.kd z4_q_1 (by decide)), tt_rv (hx5.kd z4_q_2 (by decide)), tt_rv (hx5.kd z4_q_3 (by decide)), tt_rv (hx5.kd hq4 (by decide)), trivial⟩) (fun K1 pl1 hok1 hx5 hq5 tr5 at5 => ?_)
              have z5_q_1 := hx5.kd z4_q_1 (by decide)
              have z5_q_2 := hx5.kd z4_q_2 (by decide)
              have z5_q_3 := hx5.kd z4_q_3 (by decide)
              have z5_q_4 := hx5.kd hq4 (by decide)
              have y5_q_2 := tt_elx hx5 (by decide) y4_q_2
              have y5_q_3 := tt_elx hx5 (by decide) y4_q_3
              have y5_q_4 := tt_elx hx5 (by decide) y4_q_4
              have hok := hok1
              exact jj_vretI C ⟨rfl, _, hq5, hok1⟩ dX0_init_171 (jj_le rfl) (jj_le rfl)
            | succ n ih =>
              intro i f_r K pl hin hok h_r h_s h_l
              refine jj_iload_n C dX0_init_146 rfl ?_
              refine jj_bipush (v := 12) C dX0_init_147 (by decide) ?_
              refine jj_icmp_geF (tgt := 171) C dX0_init_149 (by decide) (jj_ixF (i := i) (N := 12) (by omega) (by decide) (by decide)) ?_
              refine jj_aload_n C dX0_init_152 rfl ?_
              refine jj_get C jk_2 13 (by decide) jw_202 0 rfl rfl dX0_init_153 ?_
              refine jj_iload_n C dX0_init_156 rfl ?_
              refine jj_new (wt := []) C jk_7 jw_888 jw_889 jw_205 jd_7 (by show _ ≤ 62; omega) (by show _ ≤ 394; omega) dX0_init_157 (fun q_5 => ?_)
              refine tt_swp rfl ?_
              refine jj_dup C dX0_init_160 rfl ?_
              refine tt_callIN0 (host := "SeriesFund") (rest := [.ref q_5, .int (nI i), .ref q_4]) C (ct_X6_init_1 hl D cA ak q_5) [5] [0, 1, 2, 3, 4] rfl rfl (by decide) (by decide) (by decide) (by decide +kernel) jw_892 jw_205 jw_891 rfl jn_X6_init rfl (jj_le rfl) (jj_le rfl) (by show _ ≤ 62; omega) (by show _ ≤ 394; omega) (jj_le rfl) dX0_init_161 rfl (fun w1 r O_7 => ?_)
              obtain ⟨rfl, rfl⟩ := O_7
              refine tt_apd rfl ?_
              refine jj_aast C 4 7 5 rfl rfl rfl rfl (vp_in_nI (by omega) (by decide)) (g := (va_up f_r ((nI i)).toNatClampNeg (some q_5))) rfl rfl dX0_init_164 ?_
              refine jj_iinc (v := nI (i + 1)) C dX0_init_165 rfl (jj_ni i) (by decide) rfl ?_
              refine jj_goto (tgt := 146) C dX0_init_168 (by decide) ?_
              show jj_J p l e (jj_rm 2 32 62 394) s m args below meth c 2 A (MQ below (jj_q D A (fun (w : va_W) (r : Option Value) => r = none ∧ ∃ Kn : Nat → Nat, Kn h0 = 1 ∧ tt_ok tt_tk cA Kn w)) args s 62 394 A) (jj_X D A ([(h0, .inr (2, [.int 1, .int 0, .int 0, .int 0, .int 100, .int 0, .int 0, .int 0, .int 0, .int 0, .ref q_1, .ref q_2, .ref q_3, .ref q_4])), (q_1, .inl (cA 2, 6, .inr (.inl (fun _ => 0)))), (q_2, .inl (cA 8, 6, .inr (.inr (.inr (.inr f_s))))), (q_3, .inl (cA 6, 40, .inr (.inr (.inr (.inr f_l))))), (q_4, .inl (cA 7, 12, .inr (.inr (.inr (.inr (va_up f_r ((nI i)).toNatClampNeg (some q_5))))))), (q_5, .inr (7, [.int 0, .int 0, .int 0, .long 0, .long 0]))] ++ pl)) _ _ 146 [(1, .int (nI (i + 1))), (0, .ref h0)] []
              refine tt_prom (k := 4) [(h0, .inr (2, [.int 1, .int 0, .int 0, .int 0, .int 100, .int 0, .int 0, .int 0, .int 0, .int 0, .ref q_1, .ref q_2, .ref q_3, .ref q_4])), (q_1, .inl (cA 2, 6, .inr (.inl (fun _ => 0)))), (q_2, .inl (cA 8, 6, .inr (.inr (.inr (.inr f_s))))), (q_3, .inl (cA 6, 40, .inr (.inr (.inr (.inr f_l))))), (q_4, .inl (cA 7, 12, .inr (.inr (.inr (.inr (va_up f_r ((nI i)).toNatClampNeg (some q_5)))))))] rfl hok (fun K1 hx1 hq1 => tt_Eo (fts := [(0, (-2147483648), 2147483647), (0, (-2147483648), 2147483647), (0, 0, 1), (1, (-9223372036854775808), 9223372036854775807), (1, (-9223372036854775808), 9223372036854775807)]) rfl ⟨tt_ia _, tt_ia _, tt_iv (by decide) (by decide), tt_ja _, tt_ja _, trivial⟩) (fun K1 pl1 hok1 hx1 hq1 tr1 at1 => ?_)
              refine jj_widen (k := (50 + 1 * (i + 1))) (n := (334 + 5 * (i + 1))) (by omega) (by omega) ?_
              exact ih (i + 1) (va_up f_r ((nI i)).toNatClampNeg (some q_5)) K1 pl1 (by omega) hok1 (tt_els (by omega) hx1 (by decide) hq1 h_r) (tt_elx hx1 (by decide) h_s) (tt_elx hx1 (by decide) h_l)
          exact hL3 12 0 (fun _ => none) K pl rfl hok (fun j hj => absurd hj (Nat.not_lt_zero _)) h_s h_l
        | succ n ih =>
          intro i f_l K pl hin hok h_l h_s
          refine jj_iload_n C dX0_init_119 rfl ?_
          refine jj_bipush (v := 40) C dX0_init_120 (by decide) ?_
          refine jj_icmp_geF (tgt := 144) C dX0_init_122 (by decide) (jj_ixF (i := i) (N := 40) (by omega) (by decide) (by decide)) ?_
          refine jj_aload_n C dX0_init_125 rfl ?_
          refine jj_get C jk_2 12 (by decide) jw_214 0 rfl rfl dX0_init_126 ?_
          refine jj_iload_n C dX0_init_129 rfl ?_
          refine jj_new (wt := []) C jk_5 jw_887 jw_894 jw_217 jd_5 (by show _ ≤ 62; omega) (by show _ ≤ 394; omega) dX0_init_130 (fun q_8 => ?_)
          refine tt_swp rfl ?_
          refine jj_dup C dX0_init_133 rfl ?_
          refine tt_callIN0 (host := "SeriesFund") (rest := [.ref q_8, .int (nI i), .ref q_3]) C (ct_X4_init_1 hl D cA ak q_8) [5] [0, 1, 2, 3, 4] rfl rfl (by decide) (by decide) (by decide) (by decide +kernel) jw_897 jw_217 jw_896 rfl jn_X4_init rfl (jj_le rfl) (jj_le rfl) (by show _ ≤ 62; omega) (by show _ ≤ 394; omega) (jj_le rfl) dX0_init_134 rfl (fun w1 r O_10 => ?_)
          obtain ⟨rfl, rfl⟩ := O_10
          refine tt_apd rfl ?_
          refine jj_aast C 3 6 5 rfl rfl rfl rfl (vp_in_nI (by omega) (by decide)) (g := (va_up f_l ((nI i)).toNatClampNeg (some q_8))) rfl rfl dX0_init_137 ?_
          refine jj_iinc (v := nI (i + 1)) C dX0_init_138 rfl (jj_ni i) (by decide) rfl ?_
          refine jj_goto (tgt := 119) C dX0_init_141 (by decide) ?_
          show jj_J p l e (jj_rm 2 32 62 394) s m args below meth c 2 A (MQ below (jj_q D A (fun (w : va_W) (r : Option Value) => r = none ∧ ∃ Kn : Nat → Nat, Kn h0 = 1 ∧ tt_ok tt_tk cA Kn w)) args s 62 394 A) (jj_X D A ([(h0, .inr (2, [.int 1, .int 0, .int 0, .int 0, .int 100, .int 0, .int 0, .int 0, .int 0, .int 0, .ref q_1, .ref q_2, .ref q_3, .ref q_4])), (q_1, .inl (cA 2, 6, .inr (.inl (fun _ => 0)))), (q_2, .inl (cA 8, 6, .inr (.inr (.inr (.inr f_s))))), (q_3, .inl (cA 6, 40, .inr (.inr (.inr (.inr (va_up f_l ((nI i)).toNatClampNeg (some q_8))))))), (q_4, .inl (cA 7, 12, .inr (.inr (.inr (.inr (fun _ => none)))))), (q_8, .inr (5, [.int 0, .int 0, .int 0, .long 0, .long 0, .long 0]))] ++ pl)) _ _ 119 [(1, .int (nI (i + 1))), (0, .ref h0)] []
          refine tt_prom (k := 3) [(h0, .inr (2, [.int 1, .int 0, .int 0, .int 0, .int 100, .int 0, .int 0, .int 0, .int 0, .int 0, .ref q_1, .ref q_2, .ref q_3, .ref q_4])), (q_1, .inl (cA 2, 6, .inr (.inl (fun _ => 0)))), (q_2, .inl (cA 8, 6, .inr (.inr (.inr (.inr f_s))))), (q_3, .inl (cA 6, 40, .inr (.inr (.inr (.inr (va_up f_l ((nI i)).toNatClampNeg (some q_8))))))), (q_4, .inl (cA 7, 12, .inr (.inr (.inr (.inr (fun _ => none))))))] rfl hok (fun K1 hx1 hq1 => tt_Eo (fts := [(0, (-2147483648), 2147483647), (0, (-2147483648), 2147483647), (0, (-2147483648), 2147483647), (1, (-9223372036854775808), 9223372036854775807), (1, (-9223372036854775808), 9223372036854775807), (1, (-9223372036854775808), 9223372036854775807)]) rfl ⟨tt_ia _, tt_ia _, tt_ia _, tt_ja _, tt_ja _, tt_ja _, trivial⟩) (fun K1 pl1 hok1 hx1 hq1 tr1 at1 => ?_)
          refine jj_widen (k := (10 + 1 * (i + 1))) (n := (94 + 6 * (i + 1))) (by omega) (by omega) ?_
          exact ih (i + 1) (va_up f_l ((nI i)).toNatClampNeg (some q_8)) K1 pl1 (by omega) hok1 (tt_els (by omega) hx1 (by decide) hq1 h_l) (tt_elx hx1 (by decide) h_s)
      exact hL2 40 0 (fun _ => none) K pl rfl hok (fun j hj => absurd hj (Nat.not_lt_zero _)) h_s
    | succ n ih =>
      intro i f_s K pl hin hok h_s
      refine jj_iload_n C dX0_init_92 rfl ?_
      refine jj_bipush (v := 6) C dX0_init_93 (by decide) ?_
      refine jj_icmp_geF (tgt := 117) C dX0_init_95 (by decide) (jj_ixF (i := i) (N := 6) (by omega) (by decide) (by decide)) ?_
      refine jj_aload_n C dX0_init_98 rfl ?_
      refine jj_get C jk_2 11 (by decide) jw_135 0 rfl rfl dX0_init_99 ?_
      refine jj_iload_n C dX0_init_102 rfl ?_
      refine jj_new (wt := []) C jk_9 jw_886 jw_899 jw_92 jd_9 (by show _ ≤ 62; omega) (by show _ ≤ 394; omega) dX0_init_103 (fun q_11 => ?_)
      refine tt_swp rfl ?_
      refine jj_dup C dX0_init_106 rfl ?_
      refine tt_callIN0 (host := "SeriesFund") (rest := [.ref q_11, .int (nI i), .ref q_2]) C (ct_X8_init_1 hl D cA ak q_11) [5] [0, 1, 2, 3, 4] rfl rfl (by decide) (by decide) (by decide) (by decide +kernel) jw_902 jw_92 jw_901 rfl jn_X8_init rfl (jj_le rfl) (jj_le rfl) (by show _ ≤ 62; omega) (by show _ ≤ 394; omega) (jj_le rfl) dX0_init_107 rfl (fun w1 r O_13 => ?_)
      obtain ⟨rfl, rfl⟩ := O_13
      refine tt_apd rfl ?_
      refine jj_aast C 2 8 5 rfl rfl rfl rfl (vp_in_nI (by omega) (by decide)) (g := (va_up f_s ((nI i)).toNatClampNeg (some q_11))) rfl rfl dX0_init_110 ?_
      refine jj_iinc (v := nI (i + 1)) C dX0_init_111 rfl (jj_ni i) (by decide) rfl ?_
      refine jj_goto (tgt := 92) C dX0_init_114 (by decide) ?_
      show jj_J p l e (jj_rm 2 32 62 394) s m args below meth c 2 A (MQ below (jj_q D A (fun (w : va_W) (r : Option Value) => r = none ∧ ∃ Kn : Nat → Nat, Kn h0 = 1 ∧ tt_ok tt_tk cA Kn w)) args s 62 394 A) (jj_X D A ([(h0, .inr (2, [.int 1, .int 0, .int 0, .int 0, .int 100, .int 0, .int 0, .int 0, .int 0, .int 0, .ref q_1, .ref q_2, .ref q_3, .ref q_4])), (q_1, .inl (cA 2, 6, .inr (.inl (fun _ => 0)))), (q_2, .inl (cA 8, 6, .inr (.inr (.inr (.inr (va_up f_s ((nI i)).toNatClampNeg (some q_11))))))), (q_3, .inl (cA 6, 40, .inr (.inr (.inr (.inr (fun _ => none)))))), (q_4, .inl (cA 7, 12, .inr (.inr (.inr (.inr (fun _ => none)))))), (q_11, .inr (9, [.int 0, .int 0, .long 0, .long 0, .long 1000000]))] ++ pl)) _ _ 92 [(1, .int (nI (i + 1))), (0, .ref h0)] []
      refine tt_prom (k := 2) [(h0, .inr (2, [.int 1, .int 0, .int 0, .int 0, .int 100, .int 0, .int 0, .int 0, .int 0, .int 0, .ref q_1, .ref q_2, .ref q_3, .ref q_4])), (q_1, .inl (cA 2, 6, .inr (.inl (fun _ => 0)))), (q_2, .inl (cA 8, 6, .inr (.inr (.inr (.inr (va_up f_s ((nI i)).toNatClampNeg (some q_11))))))), (q_3, .inl (cA 6, 40, .inr (.inr (.inr (.inr (fun _ => none)))))), (q_4, .inl (cA 7, 12, .inr (.inr (.inr (.inr (fun _ => none))))))] rfl hok (fun K1 hx1 hq1 => tt_Eo (fts := [(0, (-2147483648), 2147483647), (0, (-2147483648), 2147483647), (1, (-9223372036854775808), 9223372036854775807), (1, (-9223372036854775808), 9223372036854775807), (1, (-9223372036854775808), 9223372036854775807)]) rfl ⟨tt_ia _, tt_ia _, tt_ja _, tt_ja _, tt_ja _, trivial⟩) (fun K1 pl1 hok1 hx1 hq1 tr1 at1 => ?_)
      refine jj_widen (k := (4 + 1 * (i + 1))) (n := (64 + 5 * (i + 1))) (by omega) (by omega) ?_
      exact ih (i + 1) (va_up f_s ((nI i)).toNatClampNeg (some q_11)) K1 pl1 (by omega) hok1 (tt_els (by omega) hx1 (by decide) hq1 h_s)
  exact tt_pl0 (hL1 6 0 (fun _ => none) (fun _ => 0) [] rfl tt_nil (fun j hj => absurd hj (Nat.not_lt_zero _)))
