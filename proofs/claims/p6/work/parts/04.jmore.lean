theorem jj_le {a b : Nat} (h : Nat.ble a b = true) : a ≤ b := Nat.le_of_ble_eq_true h
theorem jj_refl (x : Int32) : x ≤ x := Int32.le_refl x
theorem jj_irr (x : Int32) : ¬ x < x := Int32.lt_irrefl
theorem jj_reflL (x : Int64) : x ≤ x := Int64.le_refl x
theorem jj_irrL (x : Int64) : ¬ x < x := Int64.lt_irrefl
theorem jj_flt {x y : Int32} (h : ¬ x < y) : y ≤ x := Int32.not_lt.mp h
theorem jj_fle {x y : Int32} (h : ¬ x ≤ y) : y < x := Int32.not_le.mp h
theorem jj_nlt {x y : Int32} (h : y ≤ x) : ¬ x < y := Int32.not_lt.mpr h
theorem jj_nle {x y : Int32} (h : y < x) : ¬ x ≤ y := Int32.not_le.mpr h
theorem jj_ilt {x y : Int32} (h : x < y) : x.toInt < y.toInt := Int32.lt_iff_toInt_lt.mp h
theorem jj_ile {x y : Int32} (h : x ≤ y) : x.toInt ≤ y.toInt := Int32.le_iff_toInt_le.mp h
theorem jj_olt {x y z : Int32} (h : x ≤ y) (g : y < z) : x < z := by
  have h1 := jj_ile h
  have h2 := jj_ilt g
  exact Int32.lt_iff_toInt_lt.mpr (by omega)
theorem jj_ltl {x y z : Int32} (h : x < y) (g : y ≤ z) : x < z := by
  have h1 := jj_ilt h
  have h2 := jj_ile g
  exact Int32.lt_iff_toInt_lt.mpr (by omega)
theorem jj_lelt {x y z : Int32} (h : x ≤ y) (g : y < z) : x ≤ z := by
  have h1 := jj_ile h
  have h2 := jj_ilt g
  exact Int32.le_iff_toInt_le.mpr (by omega)
theorem jj_ltle {x y z : Int32} (h : x < y) (g : y ≤ z) : x ≤ z := by
  have h1 := jj_ilt h
  have h2 := jj_ile g
  exact Int32.le_iff_toInt_le.mpr (by omega)
theorem jj_lele {x y z : Int32} (h : x ≤ y) (g : y ≤ z) : x ≤ z := by
  have h1 := jj_ile h
  have h2 := jj_ile g
  exact Int32.le_iff_toInt_le.mpr (by omega)
theorem jj_fltL {x y : Int64} (h : ¬ x < y) : y ≤ x := Int64.not_lt.mp h
theorem jj_fleL {x y : Int64} (h : ¬ x ≤ y) : y < x := Int64.not_le.mp h
theorem jj_nltL {x y : Int64} (h : y ≤ x) : ¬ x < y := Int64.not_lt.mpr h
theorem jj_nleL {x y : Int64} (h : y < x) : ¬ x ≤ y := Int64.not_le.mpr h
theorem jj_iltL {x y : Int64} (h : x < y) : x.toInt < y.toInt := Int64.lt_iff_toInt_lt.mp h
theorem jj_ileL {x y : Int64} (h : x ≤ y) : x.toInt ≤ y.toInt := Int64.le_iff_toInt_le.mp h
theorem jj_oltL {x y z : Int64} (h : x ≤ y) (g : y < z) : x < z := by
  have h1 := jj_ileL h
  have h2 := jj_iltL g
  exact Int64.lt_iff_toInt_lt.mpr (by omega)
theorem jj_ltlL {x y z : Int64} (h : x < y) (g : y ≤ z) : x < z := by
  have h1 := jj_iltL h
  have h2 := jj_ileL g
  exact Int64.lt_iff_toInt_lt.mpr (by omega)
theorem jj_leltL {x y z : Int64} (h : x ≤ y) (g : y < z) : x ≤ z := by
  have h1 := jj_ileL h
  have h2 := jj_iltL g
  exact Int64.le_iff_toInt_le.mpr (by omega)
theorem jj_ltleL {x y z : Int64} (h : x < y) (g : y ≤ z) : x ≤ z := by
  have h1 := jj_iltL h
  have h2 := jj_ileL g
  exact Int64.le_iff_toInt_le.mpr (by omega)
theorem jj_leleL {x y z : Int64} (h : x ≤ y) (g : y ≤ z) : x ≤ z := by
  have h1 := jj_ileL h
  have h2 := jj_ileL g
  exact Int64.le_iff_toInt_le.mpr (by omega)
theorem jj_vin {x : Int32} {n : Nat} {k : Int32} (h : 0 ≤ x) (g : x < k) (hk : k.toInt = n := by decide) : vp_in x n := vp_in_iff.mpr ⟨by have h1 := jj_ile h; simpa using h1, by have h1 := jj_ilt g; omega⟩
theorem jj_em (q : Prop) : q ∨ ¬ q := Classical.em q
theorem jj_z0 {k : Nat} : vp_updL (fun _ => 0) k 0 = (fun _ => 0) := by funext j; simp [vp_updL]
theorem jj_rtS (i : Nat) : nI i - 9000 + Int32.ofInt 1 = nI (i + 1) - 9000 := by
  rw [nI_succ]
  simp only [Int32.sub_eq_add_neg, Int32.add_assoc]
  congr 1
theorem jj_rt (i : Nat) (h : i < 19000) : ¬ (9999 : Int32) < nI i - 9000 := by
  intro z
  have z1 := Int32.lt_iff_toInt_lt.mp z
  rw [show (9000 : Int32) = nI 9000 from rfl, pk_sub_toInt (by omega) (by decide)] at z1
  have z2 : (9999 : Int32).toInt = 9999 := by decide
  omega
theorem jj_ni (i : Nat) : nI i + Int32.ofInt 1 = nI (i + 1) := nI_1 i
theorem jj_ixF {i N : Nat} {k : Int32} (h : i < N) (hN : N < 2 ^ 31) (hk : nI N = k) : ¬ k ≤ nI i := by rw [← hk]; exact nI_ge h hN
/-- contents copied up to n -/
def jj_cpy (f g : Nat → Int64) (n : Nat) : Nat → Int64 := fun j => if j < n then f j else g j
theorem jj_cpy0 (f g : Nat → Int64) : jj_cpy f g 0 = g := by funext j; simp [jj_cpy]
theorem jj_cpyS (f g : Nat → Int64) (i : Nat) (h : i < 2 ^ 31) : vp_updL (jj_cpy f g i) (nI i).toNatClampNeg (f (nI i).toNatClampNeg) = jj_cpy f g (i + 1) := by
  rw [nI_clamp h]
  funext j
  unfold vp_updL jj_cpy
  by_cases hj : j = i
  · subst hj; rw [if_pos rfl, if_pos (Nat.lt_succ_self _)]
  · rw [if_neg hj]
    by_cases h2 : j < i
    · rw [if_pos h2, if_pos (Nat.lt_succ_of_lt h2)]
    · rw [if_neg h2, if_neg (by omega)]
/-- the numbers of a fresh fund in the reference's row -/
def jj_w0 : Nat → Int64 := fun j => if j = 0 then 1 else if j = 4 then 100 else 0
section JM
variable {p : Program} {l : Launch} {e : Env} {R : Room} {s : State} {m : MethodId} {args : Array Value} {below : List Frame} {meth : Method} {c : Code}
variable {nL : Nat} {A : Nat → Prop} {Q : State → Prop} {Wd : Heap → Prop} {cells slots pc : Nat} {lv : List (Nat × Value)} {st rest : List Value} {cc : ByteArray} {own : String} {ret : Option FieldType} {D : va_G} {cA : Nat → ClassId} {ak : (Nat → Nat) × (Nat → Nat)} {ws wc wr : va_W} {O : va_W → Option Value → Prop} {OX : String → va_W → Prop} {mc ms : Nat}
theorem jj_ldcs (C : jj_C p l s m args meth c cc nL own ret D cA A ak) {index k : Nat} {tx : String} (hd : decode cc pc = .ok (.ldc index, 2)) (h : (own, index, tx, k) ∈ jj_str) (kk : jj_J p l e R s m args below meth c nL A Q Wd cells slots (pc + 2) lv (.ref (ak.1 k) :: st)) : jj_J p l e R s m args below meth c nL A Q Wd cells slots pc lv st := fun H locs ls hW hS hl => va_ldcS C.1 C.2.1 C.2.2.2.2.1 (C.2.2.2.2.2.2.2.2.2.2.2.2.2.2.2.2.1 _ h) hd (kk H locs ls hW hS hl)
theorem jj_ldcsw (C : jj_C p l s m args meth c cc nL own ret D cA A ak) {index k : Nat} {tx : String} (hd : decode cc pc = .ok (.ldc_w index, 3)) (h : (own, index, tx, k) ∈ jj_str) (kk : jj_J p l e R s m args below meth c nL A Q Wd cells slots (pc + 3) lv (.ref (ak.1 k) :: st)) : jj_J p l e R s m args below meth c nL A Q Wd cells slots pc lv st := by
  intro H locs ls hW hS hl T hT X
  obtain ⟨t, a1, b1⟩ := kk H locs ls hW hS hl T hT X
  have hZ := C.2.2.2.2.2.2.2.2.2.2.2.2.2.2.2.2.1 _ h
  exact ⟨t, X.ldcStringW C.1 C.2.2.2.2.1 hZ.1 hZ.2 (g := F0 m pc ls st) rfl (by rw [C.2.1]; exact hd) t a1, b1⟩
theorem jj_leftH {w1 : va_W} {H : Heap} (h : jj_X D A (wr ++ w1) H) : jj_X D A wr H := by
  refine ⟨fun k q hk => h.1 k q ?_, fun i j p q hi hj => h.2.1 i j p q ?_ ?_, fun k q hk => h.2.2 k q ?_⟩
  · rw [List.getElem?_append_left (List.getElem?_eq_some_iff.mp hk).1]; exact hk
  · rw [List.getElem?_append_left (List.getElem?_eq_some_iff.mp hi).1]; exact hi
  · rw [List.getElem?_append_left (List.getElem?_eq_some_iff.mp hj).1]; exact hj
  · rw [List.getElem?_append_left (List.getElem?_eq_some_iff.mp hk).1]; exact hk
theorem jj_left {w1 : va_W} (kk : jj_J p l e R s m args below meth c nL A Q (jj_X D A wr) cells slots pc lv st) : jj_J p l e R s m args below meth c nL A Q (jj_X D A (wr ++ w1)) cells slots pc lv st := fun H locs ls hW hS hl => kk H locs ls (jj_leftH hW) hS hl
theorem jj_leftY {w1 : va_W} {E : String} (kk : jj_Y p l e R s m args below meth c nL A Q (jj_X D A wr) cells slots pc lv rest E) : jj_Y p l e R s m args below meth c nL A Q (jj_X D A (wr ++ w1)) cells slots pc lv rest E := fun H locs ls ce q9 hW hS hl => kk H locs ls ce q9 (jj_leftH hW) hS hl
theorem jj_apdY {wt : va_W} {E : String} (h : jj_ap wr ws = some wt) (kk : jj_Y p l e R s m args below meth c nL A Q (jj_X D A wt) cells slots pc lv rest E) : jj_Y p l e R s m args below meth c nL A Q (jj_X D A (wr ++ ws)) cells slots pc lv rest E := by rw [jj_ap_eq h]; exact kk
theorem jj_callVs (C : jj_C p l s m args meth c cc nL own ret D cA A ak) {y : MethodName} {bytes : ByteArray} {maxL fr lo index n : Nat} {rt : Option FieldType} {As : List Value} {k : Nat} (hM : jj_M l D cA ak y (.code y bytes maxL rt) fr lo mc ms wc (.ref (ak.1 k) :: As) O OX) (isC isR : List Nat) (hC : isC.map (fun i => ws[i]?) = wc.map some) (hR : isR.map (fun i => ws[i]?) = wr.map some) (hnC : va_nd isC = true) (hn : va_nd isR = true) (hdis : ∀ i ∈ isR, i ∉ isC) (k0 : Nat) (hk : k < jj_n) (hr0 : y.cls = "java/lang/String")
    (h1 : Cond.methodLink own index y ∈ jj_G) (h2 : Cond.instanceMethod y ∈ jj_G) (h3 : Cond.selects y.cls y y ∈ jj_G) (h4 : Cond.initialized y.cls ∈ jj_G) (h5 : Cond.code y bytes maxL rt ∈ jj_G) (hN : jj_N y n) (hAs : As.length = n) (hfr : fr + 1 ≤ R.frames) (hlo : 8 + (maxL + 11) + lo ≤ R.locals) (hcl : cells + mc ≤ R.cells) (hsl : slots + ms ≤ R.slots) (hcat : (rest.map fun v => v.category).sum ≤ 8) (hd : decode cc pc = .ok (.invokevirtual index, 3)) (hst : st = As.reverse ++ .ref (ak.1 k) :: rest) (kx : ∀ (E : String) (w1 : va_W), OX E w1 → jj_Y p l e R s m args below meth c nL A Q (jj_X D A (wr ++ w1)) (cells + mc) (slots + ms) pc lv rest E) (kk : ∀ (w1 : va_W) (r : Option Value), O w1 r → jj_J p l e R s m args below meth c nL A Q (jj_X D A (wr ++ w1)) (cells + mc) (slots + ms) (pc + 3) lv (r.toList ++ rest)) : jj_J p l e R s m args below meth c nL A Q (jj_X D A ws) cells slots pc lv st := by
  intro H locs ls hW hS hl
  have hPr := jj_pre C hW hS isC hC hnC (.ref (ak.1 k) :: As)
  have hrv : ∃ cell : Cell, H[ak.1 k]? = some cell ∧ cell.vm.isStatics = false ∧ s.vm.findClass y.cls = some cell.cls := by
    rw [hr0]
    obtain ⟨cell, g1, g2, g3, -⟩ := (C.2.2.2.2.2.2.2.2.2.2.2.2.2.2.2.2.2.1 k hk).1.kept hS.2.1
    exact ⟨cell, g1, g2, g3⟩
  have hg := jj_gi (own := own) (ws := [.methodLink own index y, .instanceMethod y, .selects y.cls y y, .initialized y.cls]) (cw := .code y bytes maxL rt) (by
    intro w hw
    rcases List.mem_cons.mp hw with rfl | hw
    · exact h1
    rcases List.mem_cons.mp hw with rfl | hw
    · exact h2
    rcases List.mem_cons.mp hw with rfl | hw
    · exact h3
    rcases List.mem_cons.mp hw with rfl | hw
    · exact h4
    · cases hw) h5
  exact jj_run (a0 := (Value.ref (ak.1 k) :: As).toArray) C hW hS hl isC isR hC hR hn hdis (vx_runV (Ts := jj_G) (As := As) (rest := rest) ⟨C.1, C.2.1, C.2.2.1, C.2.2.2.2.1, C.2.2.2.2.2.1⟩ (hM H.size) (cwV n C.2.2.2.2.2.1 hg rfl rfl rfl ⟨rfl, hN⟩ ⟨hfr, hlo⟩) ⟨jj_blind, hrv, hPr⟩ rfl hAs hl.1 hst (by show 2 * 0 + _ ≤ 8; omega) hd ⟨hcl, hsl⟩) kx kk
theorem jj_callIN (C : jj_C p l s m args meth c cc nL own ret D cA A ak) {y : MethodName} {bytes : ByteArray} {host : String} {maxL fr lo index n b : Nat} {As : List Value} (hM : jj_I l D cA ak y (.code y bytes maxL none) fr lo mc ms wc (.ref b :: As) O) (isC isR : List Nat) (hC : isC.map (fun i => ws[i]?) = wc.map some) (hR : isR.map (fun i => ws[i]?) = wr.map some) (hnC : va_nd isC = true) (hn : va_nd isR = true) (hdis : ∀ i ∈ isR, i ∉ isC)
    (h1 : (own, index, y, host) ∈ jj_nest) (h2 : Cond.instanceMethod y ∈ jj_G) (h4 : Cond.initialized y.cls ∈ jj_G) (h5 : Cond.code y bytes maxL none ∈ jj_G) (hy : y.name = "<init>") (hN : jj_N y n) (hAs : As.length = n) (hfr : fr + 1 ≤ R.frames) (hlo : 8 + (maxL + 11) + lo ≤ R.locals) (hcl : cells + mc ≤ R.cells) (hsl : slots + ms ≤ R.slots) (hcat : (rest.map fun v => v.category).sum ≤ 8) (hd : decode cc pc = .ok (.invokespecial index, 3)) (hst : st = As.reverse ++ .ref b :: rest) (kk : ∀ (w1 : va_W) (r : Option Value), O w1 r → jj_J p l e R s m args below meth c nL A Q (jj_X D A (wr ++ w1)) (cells + mc) (slots + ms) (pc + 3) lv (r.toList ++ rest)) : jj_J p l e R s m args below meth c nL A Q (jj_X D A ws) cells slots pc lv st := by
  intro H locs ls hW hS hl
  have hPr := jj_pre C hW hS isC hC hnC (.ref b :: As)
  have hg := jj_gi (own := own) (ws := []) (cw := .code y bytes maxL none) (fun w hw => by cases hw) h5
  have ht := C.2.2.2.2.2.1
  exact jj_runI (a0 := (Value.ref b :: As).toArray) C hW hS hl isC isR hC hR hn hdis (va_runIN (Ts := jj_G) (As := As) (rest := rest) ⟨C.1, C.2.1, C.2.2.1, C.2.2.2.2.1, C.2.2.2.2.2.1⟩ (hM H.size) ⟨va_cnB n ht hg rfl rfl rfl (C.2.2.2.2.2.2.2.2.2.2.2.2.2.2.2.2.2.2.2.1 _ h1) (ht _ h4) hN ⟨hfr, hlo⟩, hy, ht _ h2⟩ ⟨jj_blind, hPr⟩ rfl hAs hl.1 hst (by show 2 * 0 + _ ≤ 8; omega) hd ⟨hcl, hsl⟩) kk
theorem jj_sval (C : jj_C p l s m args meth c cc nL own ret D cA A ak) {index k : Nat} (hk : k < jj_n) (hw : Cond.fieldLink own index "java/lang/String" "value" "[B" ∈ jj_G) (hd : decode cc pc = .ok (.getfield index, 3)) (kk : jj_J p l e R s m args below meth c nL A Q Wd cells slots (pc + 3) lv (.ref (ak.2 k) :: st)) : jj_J p l e R s m args below meth c nL A Q Wd cells slots pc lv (.ref (ak.1 k) :: st) := fun H locs ls hW hS hl => vk_getf C.1 C.2.1 (C.2.2.2.2.2.2.2.2.2.2.2.2.2.2.2.2.2.1 k hk).2.2.1 hS C.2.2.2.2.1 (C.2.2.2.2.2.1 _ hw) (fun _ h9 => h9) hd (kk H locs ls hW hS hl)
theorem jj_scod (C : jj_C p l s m args meth c cc nL own ret D cA A ak) {index k : Nat} (hk : k < jj_n) (hw : Cond.fieldLink own index "java/lang/String" "coder" "B" ∈ jj_G) (hd : decode cc pc = .ok (.getfield index, 3)) (kk : jj_J p l e R s m args below meth c nL A Q Wd cells slots (pc + 3) lv (.int 0 :: st)) : jj_J p l e R s m args below meth c nL A Q Wd cells slots pc lv (.ref (ak.1 k) :: st) := fun H locs ls hW hS hl => vk_getf C.1 C.2.1 (C.2.2.2.2.2.2.2.2.2.2.2.2.2.2.2.2.2.1 k hk).2.1 hS C.2.2.2.2.1 (C.2.2.2.2.2.1 _ hw) (fun _ h9 => h9) hd (kk H locs ls hW hS hl)
theorem jj_slen (C : jj_C p l s m args meth c cc nL own ret D cA A ak) {k : Nat} {v : Int32} (hk : k < jj_n) (hv : Int32.ofNat (jj_len.getD k 0) = v) (hd : decode cc pc = .ok (.arraylength, 1)) (kk : jj_J p l e R s m args below meth c nL A Q Wd cells slots (pc + 1) lv (.int v :: st)) : jj_J p l e R s m args below meth c nL A Q Wd cells slots pc lv (.ref (ak.2 k) :: st) := fun H locs ls hW hS hl => va_tlen C.1 C.2.1 (C.2.2.2.2.2.2.2.2.2.2.2.2.2.2.2.2.2.1 k hk).2.2.2 hS hv hd (kk H locs ls hW hS hl)
theorem jj_sbyt (C : jj_C p l s m args meth c cc nL own ret D cA A ak) {k : Nat} {i v : Int32} (hk : k < jj_n) (hin : vp_in i (jj_len.getD k 0)) (hv : (jj_byt.getD k []).getD i.toNatClampNeg 0 = v) (hd : decode cc pc = .ok (.baload, 1)) (kk : jj_J p l e R s m args below meth c nL A Q Wd cells slots (pc + 1) lv (.int v :: st)) : jj_J p l e R s m args below meth c nL A Q Wd cells slots pc lv (.int i :: .ref (ak.2 k) :: st) := fun H locs ls hW hS hl => va_tb C.1 C.2.1 (C.2.2.2.2.2.2.2.2.2.2.2.2.2.2.2.2.2.1 k hk).2.2.2 hS hin (by rw [hv]) hd (kk H locs ls hW hS hl)
theorem jj_gcs (C : jj_C p l s m args meth c cc nL own ret D cA A ak) {index : Nat} (hw : Cond.fieldLink own index "java/lang/String" "COMPACT_STRINGS" "Z" ∈ jj_G) (hd : decode cc pc = .ok (.getstatic index, 3)) (kk : jj_J p l e R s m args below meth c nL A Q Wd cells slots (pc + 3) lv (.int 1 :: st)) : jj_J p l e R s m args below meth c nL A Q Wd cells slots pc lv st := fun H locs ls hW hS hl => va_gets C.1 C.2.1 C.2.2.2.2.2.2.2.2.2.2.2.2.2.2.2.2.2.2.1 hS C.2.2.2.2.1 (C.2.2.2.2.2.1 _ hw) (fun _ h9 => h9) hd (kk H locs ls hW hS hl)
theorem jj_gfm (C : jj_C p l s m args meth c cc nL own ret D cA A ak) {index : Nat} (hw : Cond.fieldLink own index "jdk/internal/util/Preconditions" "SIOOBE_FORMATTER" "Ljava/util/function/BiFunction;" ∈ jj_G) (hd : decode cc pc = .ok (.getstatic index, 3)) (kk : ∀ t : Nat, jj_J p l e R s m args below meth c nL A Q Wd cells slots (pc + 3) lv (.ref t :: st)) (k0 : jj_J p l e R s m args below meth c nL A Q Wd cells slots (pc + 3) lv (.null :: st)) : jj_J p l e R s m args below meth c nL A Q Wd cells slots pc lv st := by
  intro H locs ls hW hS hl
  rcases C.2.2.2.2.2.2.2.2.2.2.2.2.2.2.2.2.2.2.2.2 with h | ⟨t, h⟩
  · exact va_gets C.1 C.2.1 h hS C.2.2.2.2.1 (C.2.2.2.2.2.1 _ hw) (fun _ h9 => h9) hd (k0 H locs ls hW hS hl)
  · exact va_gets C.1 C.2.1 h hS C.2.2.2.2.1 (C.2.2.2.2.2.1 _ hw) (fun _ h9 => h9) hd (kk t H locs ls hW hS hl)
end JM
/-- one's entry, of a method with a table of handlers -/
theorem jj_startW {l : Launch} {D : va_G} {cA : Nat → ClassId} {ak : (Nat → Nat) × (Nat → Nat)} {y : MethodName} {cc : ByteArray} {maxL : Nat} {ret : Option FieldType} {hh : List (Nat × Nat × Nat × Nat)} {fr lo mc ms : Nat} {wi : va_W} {as : List Value} {O : va_W → Option Value → Prop} {OX : String → va_W → Prop} (hl : l.stackTraces = false) (hy : plainName y.cls = true) (hc : Cond.codeWith y cc maxL ret hh ∈ jj_G) (hn : (lg_sl as).length ≤ maxL)
    (body : ∀ (p : Program) (e : Env) (s : State) (m : MethodId) (args : Array Value) (below : List Frame) (meth : Method) (c : Code) (A : Nat → Prop), args = as.toArray → A = va_A wi s.heap.size → jj_C p l s m args meth c cc maxL y.cls ret D cA A ak → c.exceptionTable.toList = tableOf hh → (meth.name = y.name) →
      jj_J p l e (jj_rm fr lo mc ms) s m args below meth c maxL A (vx_MQ below (jj_q D A O) (jj_x D A OX) args s mc ms A) (jj_X D A wi) 0 0 0 (lv_args 0 as) []) : jj_M l D cA ak y (.codeWith y cc maxL ret hh) fr lo mc ms wi as O OX := by
  intro sz
  refine vx_ofWH (cc := cc) (maxL := maxL) (ret := ret) (hh := hh) hy rfl ?_
  intro p e s m args below meth c s₁ B hml hv
  obtain ⟨rfl, hsz, hP, hK, hD0, hB⟩ := hv
  subst hsz
  have hts := atoms_spec (ws := Cond.codeWith y cc maxL ret hh :: jj_G) B.pre
  have hown : s.vm.findClass y.cls = some m.cls := findClass_of_methodNamed B.named
  have C : jj_C p l s m as.toArray meth c cc maxL y.cls ret D cA (va_A wi s.heap.size) ak := ⟨B.exec, B.bytes, hml, B.returns, hown, fun w hw => hts w (List.mem_cons_of_mem _ hw), B.notSynchronized, hK, fun q h => Or.inr h, hl, hB⟩
  rw [lg_entry_eq]
  exact body p e s m as.toArray below meth c _ rfl rfl C (vx_table (x := y) B (hts _ List.mem_cons_self)) (name_of_methodNamed B.named B.method).1 s.heap [] _ ⟨hP, hD0.self⟩ va_S.rf (lv_entry as hn)
