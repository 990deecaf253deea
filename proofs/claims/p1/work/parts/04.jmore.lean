theorem jj_le {a b : Nat} (h : Nat.ble a b = true) : a ≤ b := Nat.le_of_ble_eq_true h
theorem jj_refl (x : Int32) : x ≤ x := Int32.le_refl x
theorem jj_irr (x : Int32) : ¬ x < x := Int32.lt_irrefl x
theorem jj_reflL (x : Int64) : x ≤ x := Int64.le_refl x
theorem jj_irrL (x : Int64) : ¬ x < x := Int64.lt_irrefl x
theorem jj_em (q : Prop) : q ∨ ¬ q := Classical.em q
section JM
variable {p : Program} {l : Launch} {e : Env} {R : Room} {s : State} {m : MethodId} {args : Array Value} {below : List Frame} {meth : Method} {c : Code}
variable {nL : Nat} {A : Nat → Prop} {Q : State → Prop} {Wd : Heap → Prop} {cells slots pc : Nat} {lv : List (Nat × Value)} {st rest : List Value} {cc : ByteArray} {own : String} {ret : Option FieldType} {D : va_G} {cA : Nat → ClassId} {ak : (Nat → Nat) × (Nat → Nat)} {ws wc wr : va_W} {O : va_W → Option Value → Prop} {OX : String → va_W → Prop} {mc ms : Nat}
theorem jj_ldcs (C : jj_C p l s m args meth c cc nL own ret D cA A ak) {index k : Nat} {tx : String} (hd : decode cc pc = .ok (.ldc index, 2)) (h : (own, index, tx, k) ∈ jj_str) (kk : jj_J p l e R s m args below meth c nL A Q Wd cells slots (pc + 2) lv (.ref (ak.1 k) :: st)) : jj_J p l e R s m args below meth c nL A Q Wd cells slots pc lv st := fun H locs ls hW hS hl => va_ldcS C.1 C.2.1 C.2.2.2.2.1 (C.2.2.2.2.2.2.2.2.2.2.2.2.2.2.2.2.1 _ h) hd (kk H locs ls hW hS hl)
theorem jj_ldcsw (C : jj_C p l s m args meth c cc nL own ret D cA A ak) {index k : Nat} {tx : String} (hd : decode cc pc = .ok (.ldc_w index, 3)) (h : (own, index, tx, k) ∈ jj_str) (kk : jj_J p l e R s m args below meth c nL A Q Wd cells slots (pc + 3) lv (.ref (ak.1 k) :: st)) : jj_J p l e R s m args below meth c nL A Q Wd cells slots pc lv st := by
  intro H locs ls hW hS hl T hT X
  obtain ⟨t, a1, b1⟩ := kk H locs ls hW hS hl T hT X
  have hZ := C.2.2.2.2.2.2.2.2.2.2.2.2.2.2.2.2.1 _ h
  obtain ⟨k0, cf, i, a', hk, hcf, hcp, -, hr, hev'⟩ := Cond.stringRef_spec (args := #[]) C.2.2.2.2.1 hZ.1
  cases hZ.2.symm.trans hev'
  obtain ⟨k', hk', he⟩ := X.warmed.alike.2.2 _ _ hk
  have hr' : k'.resolved[index]? = some (some (.string (ak.1 k))) := by
    rcases X.warmed.entry hk hk' index with h9 | ⟨h9, -⟩
    · rw [h9]; exact hr
    · rw [hr] at h9; cases h9
  have hdg : decode c.code pc = .ok (.ldc_w index, 3) := by rw [C.2.1]; exact hd
  refine ⟨t, ?_, b1⟩
  jvm_step X.here [C.1, hdg, ldc_w.wp_string (e := e) (s := T) (f := F0 m pc ls st) X.here.top hk' (by rw [he]; exact hcf) hcp hr']
  exact a1
theorem jj_leftH {w1 : va_W} {H : Heap} (h : jj_X D A (wr ++ w1) H) : jj_X D A wr H := by
  refine ⟨fun k q hk => h.1 k q ?_, fun i j p q hi hj => h.2.1 i j p q ?_ ?_, fun k q hk => h.2.2 k q ?_⟩
  · rw [List.getElem?_append_left (List.getElem?_eq_some_iff.mp hk).1]; exact hk
  · rw [List.getElem?_append_left (List.getElem?_eq_some_iff.mp hi).1]; exact hi
  · rw [List.getElem?_append_left (List.getElem?_eq_some_iff.mp hj).1]; exact hj
  · rw [List.getElem?_append_left (List.getElem?_eq_some_iff.mp hk).1]; exact hk
theorem jj_left {w1 : va_W} (kk : jj_J p l e R s m args below meth c nL A Q (jj_X D A wr) cells slots pc lv st) : jj_J p l e R s m args below meth c nL A Q (jj_X D A (wr ++ w1)) cells slots pc lv st := fun H locs ls hW hS hl => kk H locs ls (jj_leftH hW) hS hl
theorem jj_leftY {w1 : va_W} {E : String} (kk : jj_Y p l e R s m args below meth c nL A Q (jj_X D A wr) cells slots pc lv rest E) : jj_Y p l e R s m args below meth c nL A Q (jj_X D A (wr ++ w1)) cells slots pc lv rest E := fun H locs ls ce q9 hW hS hl => kk H locs ls ce q9 (jj_leftH hW) hS hl
theorem jj_apdY {wt : va_W} {E : String} (h : jj_ap wr ws = some wt) (kk : jj_Y p l e R s m args below meth c nL A Q (jj_X D A wt) cells slots pc lv rest E) : jj_Y p l e R s m args below meth c nL A Q (jj_X D A (wr ++ ws)) cells slots pc lv rest E := by rw [jj_ap_eq h]; exact kk
theorem jj_callVs (C : jj_C p l s m args meth c cc nL own ret D cA A ak) {y : MethodName} {bytes : ByteArray} {maxL fr lo index n : Nat} {rt : Option FieldType} {As : List Value} {k : Nat} (hM : jj_M l D cA ak y (.code y bytes maxL rt) fr lo mc ms wc (.ref (ak.1 k) :: As) O OX) (isC isR : List Nat) (hC : isC.map (fun i => ws[i]?) = wc.map some) (hR : isR.map (fun i => ws[i]?) = wr.map some) (hnC : va_nd isC = true) (hn : va_nd isR = true) (hdis : ∀ i ∈ isR, i ∉ isC) (k0 : Nat) (hk : k < jj_n) (hr0 : y.cls = "java/lang/String")
    (h1 : Cond.methodLink own index y ∈ jj_G) (h2 : Cond.instanceMethod y ∈ jj_G) (h3 : Cond.selects y.cls y y ∈ jj_G) (h4 : Cond.initialized y.cls ∈ jj_G) (h5 : Cond.code y bytes maxL rt ∈ jj_G) (hN : jj_N y n) (hAs : As.length = n) (hfr : fr + 1 ≤ R.frames) (hlo : 8 + (maxL + 11) + lo ≤ R.locals) (hcl : cells + mc ≤ R.cells) (hsl : slots + ms ≤ R.slots) (hcat : (rest.map fun v => v.category).sum ≤ 8) (hd : decode cc pc = .ok (.invokevirtual index, 3)) (hst : st = As.reverse ++ .ref (ak.1 k) :: rest) (kx : ∀ (E : String) (w1 : va_W), OX E w1 → jj_Y p l e R s m args below meth c nL A Q (jj_X D A (wr ++ w1)) (cells + mc) (slots + ms) pc lv rest E) (kk : ∀ (w1 : va_W) (r : Option Value), O w1 r → jj_J p l e R s m args below meth c nL A Q (jj_X D A (wr ++ w1)) (cells + mc) (slots + ms) (pc + 3) lv (r.toList ++ rest)) : jj_J p l e R s m args below meth c nL A Q (jj_X D A ws) cells slots pc lv st := by
  intro H locs ls hW hS hl
  have hPr := jj_pre C hW hS isC hC hnC (.ref (ak.1 k) :: As)
  have hrv : ∃ cell : Cell, H[ak.1 k]? = some cell ∧ cell.vm.isStatics = false ∧ s.vm.findClass y.cls = some cell.cls := by
    rw [hr0]
    obtain ⟨cell, g1, g2, g3, -⟩ := (C.2.2.2.2.2.2.2.2.2.2.2.2.2.2.2.2.2.1 k hk).1.kept hS.2.1
    exact ⟨cell, g1, g2, g3⟩
  have hg := jj_gi (own := own) (ws := [.methodLink own index y, .instanceMethod y, .selects y.cls y y, .initialized y.cls]) (cw := .code y bytes maxL rt) (by
    intro w hw
    rcases List.mem_cons.mp hw with rfl | hw
    · exact h1
    rcases List.mem_cons.mp hw with rfl | hw
    · exact h2
    rcases List.mem_cons.mp hw with rfl | hw
    · exact h3
    rcases List.mem_cons.mp hw with rfl | hw
    · exact h4
    · cases hw) h5
  exact jj_run (a0 := (Value.ref (ak.1 k) :: As).toArray) C hW hS hl isC isR hC hR hn hdis (vx_runV (Ts := jj_G) (As := As) (rest := rest) ⟨C.1, C.2.1, C.2.2.1, C.2.2.2.2.1, C.2.2.2.2.2.1⟩ (hM H.size) (cwV n C.2.2.2.2.2.1 hg rfl rfl rfl ⟨rfl, hN⟩ ⟨hfr, hlo⟩) ⟨jj_blind, hrv, hPr⟩ rfl hAs hl.1 hst (by show 2 * 0 + _ ≤ 8; omega) hd ⟨hcl, hsl⟩) kx kk
end JM
/-- one's entry, of a method with a table of handlers -/
theorem jj_startW {l : Launch} {D : va_G} {cA : Nat → ClassId} {ak : (Nat → Nat) × (Nat → Nat)} {y : MethodName} {cc : ByteArray} {maxL : Nat} {ret : Option FieldType} {hh : List (Nat × Nat × Nat × Nat)} {fr lo mc ms : Nat} {wi : va_W} {as : List Value} {O : va_W → Option Value → Prop} {OX : String → va_W → Prop} (hl : l.stackTraces = false) (hy : plainName y.cls = true) (hc : Cond.codeWith y cc maxL ret hh ∈ jj_G) (hn : (lg_sl as).length ≤ maxL)
    (body : ∀ (p : Program) (e : Env) (s : State) (m : MethodId) (args : Array Value) (below : List Frame) (meth : Method) (c : Code) (A : Nat → Prop), args = as.toArray → A = va_A wi s.heap.size → jj_C p l s m args meth c cc maxL y.cls ret D cA A ak → c.exceptionTable.toList = tableOf hh → (meth.name = y.name) →
      jj_J p l e (jj_rm fr lo mc ms) s m args below meth c maxL A (vx_MQ below (jj_q D A O) (jj_x D A OX) args s mc ms A) (jj_X D A wi) 0 0 0 (lv_args 0 as) []) : jj_M l D cA ak y (.codeWith y cc maxL ret hh) fr lo mc ms wi as O OX := by
  intro sz
  refine vx_ofWH (cc := cc) (maxL := maxL) (ret := ret) (hh := hh) hy rfl ?_
  intro p e s m args below meth c s₁ B hml hv
  obtain ⟨rfl, hsz, hP, hK, hD0, hB⟩ := hv
  subst hsz
  have hts := atoms_spec (ws := Cond.codeWith y cc maxL ret hh :: jj_G) B.pre
  have hown : s.vm.findClass y.cls = some m.cls := findClass_of_methodNamed B.named
  have C : jj_C p l s m as.toArray meth c cc maxL y.cls ret D cA (va_A wi s.heap.size) ak := ⟨B.exec, B.bytes, hml, B.returns, hown, fun w hw => hts w (List.mem_cons_of_mem _ hw), B.notSynchronized, hK, fun q h => Or.inr h, hl, hB⟩
  rw [lg_entry_eq]
  exact body p e s m as.toArray below meth c _ rfl rfl C (vx_table B (hts _ List.mem_cons_self)) (name_of_methodNamed B.named B.method).1 s.heap [] _ ⟨hP, hD0.self⟩ va_S.rf (lv_entry as hn)
