section JQ
variable {p : Program} {l : Launch} {e : Env} {R : Room} {s : State} {m : MethodId} {args : Array Value} {below : List Frame} {meth : Method} {c : Code}
variable {nL : Nat} {A : Nat → Prop} {Q : State → Prop} {Wd : Heap → Prop} {cells slots pc : Nat} {lv : List (Nat × Value)} {st rest : List Value} {cc : ByteArray} {own : String} {ret : Option FieldType} {D : va_G} {cA : Nat → ClassId} {ak : (Nat → Nat) × (Nat → Nat)} {ws wc wr : va_W} {O : va_W → Option Value → Prop} {OX : String → va_W → Prop} {mc ms : Nat}
theorem jq_callV (C : jj_C p l s m args meth c cc nL own ret D cA A ak) {y : MethodName} {bytes : ByteArray} {maxL fr lo index n b : Nat} {rt : Option FieldType} {As : List Value} (hM : jj_M l D cA ak y (.code y bytes maxL rt) fr lo mc ms wc (.ref b :: As) O OX) (isC isR : List Nat) (hC : isC.map (fun i => ws[i]?) = wc.map some) (hR0 : jj_pk isR ws = some wr) (hnC : va_nd isC = true) (hn : va_nd isR = true) (hdis : ∀ i ∈ isR, i ∉ isC) {ci : Nat} {fs : List Value} {r0 : vw_C} (qc : Nat) (hrc : wc[qc]? = some (b, .inr (ci, fs))) (hcc : vwCl[ci]? = some r0) (hr0 : r0.1 = y.cls)
    (h1 : Cond.methodLink own index y ∈ jj_G) (h2 : Cond.instanceMethod y ∈ jj_G) (h3 : Cond.selects y.cls y y ∈ jj_G) (h4 : Cond.initialized y.cls ∈ jj_G) (h5 : Cond.code y bytes maxL rt ∈ jj_G) (hN : jj_N y n) (hAs : As.length = n) (hfr : fr + 1 ≤ R.frames) (hlo : 8 + (maxL + 11) + lo ≤ R.locals) (hcl : cells + mc ≤ R.cells) (hsl : slots + ms ≤ R.slots) (hcat : (rest.map fun v => v.category).sum ≤ 8) (hd : decode cc pc = .ok (.invokevirtual index, 3)) (hst : st = As.reverse ++ .ref b :: rest) (kx : ∀ (E : String) (w1 : va_W), OX E w1 → jj_Y p l e R s m args below meth c nL A Q (jj_X D A (wr ++ w1)) (cells + mc) (slots + ms) pc lv rest E) (kk : ∀ (w1 : va_W) (r : Option Value), O w1 r → jj_J p l e R s m args below meth c nL A Q (jj_X D A (wr ++ w1)) (cells + mc) (slots + ms) (pc + 3) lv (r.toList ++ rest)) : jj_J p l e R s m args below meth c nL A Q (jj_X D A ws) cells slots pc lv st := by
  have hR := jj_pk_eq hR0
  intro H locs ls hW hS hl
  have hPr := jj_pre C hW hS isC hC hnC (.ref b :: As)
  have hrv : ∃ cell : Cell, H[b]? = some cell ∧ cell.vm.isStatics = false ∧ s.vm.findClass y.cls = some cell.cls := by
    rw [← hr0]
    exact va_recv C.2.2.2.2.2.2.2.1 (hW.1.sub isC (jj_fm hC)) hcc hrc
  have hg := jj_gi (own := own) (ws := [.methodLink own index y, .instanceMethod y, .selects y.cls y y, .initialized y.cls]) (cw := .code y bytes maxL rt) (by
    intro w hw
    rcases List.mem_cons.mp hw with rfl | hw
    · exact h1
    rcases List.mem_cons.mp hw with rfl | hw
    · exact h2
    rcases List.mem_cons.mp hw with rfl | hw
    · exact h3
    rcases List.mem_cons.mp hw with rfl | hw
    · exact h4
    · cases hw) h5
  exact jj_run (a0 := (Value.ref b :: As).toArray) C hW hS hl isC isR hC hR hn hdis (vx_runV (Ts := jj_G) (As := As) (rest := rest) ⟨C.1, C.2.1, C.2.2.1, C.2.2.2.2.1, C.2.2.2.2.2.1⟩ (hM H.size) (cwV n C.2.2.2.2.2.1 hg rfl rfl rfl ⟨rfl, hN⟩ ⟨hfr, hlo⟩) ⟨jj_blind, hrv, hPr⟩ rfl hAs hl.1 hst (by show 2 * 0 + _ ≤ 8; omega) hd ⟨hcl, hsl⟩) kx kk
theorem jq_callS (C : jj_C p l s m args meth c cc nL own ret D cA A ak) {y : MethodName} {bytes : ByteArray} {maxL fr lo index n : Nat} {rt : Option FieldType} {As : List Value} (hM : jj_M l D cA ak y (.code y bytes maxL rt) fr lo mc ms wc As O OX) (isC isR : List Nat) (hC : isC.map (fun i => ws[i]?) = wc.map some) (hR0 : jj_pk isR ws = some wr) (hnC : va_nd isC = true) (hn : va_nd isR = true) (hdis : ∀ i ∈ isR, i ∉ isC)
    (h1 : Cond.methodLink own index y ∈ jj_G) (h2 : Cond.static y ∈ jj_G) (h4 : Cond.initialized y.cls ∈ jj_G) (h5 : Cond.code y bytes maxL rt ∈ jj_G) (hN : jj_N y n) (hAs : As.length = n) (hfr : fr + 1 ≤ R.frames) (hlo : 8 + (maxL + 11) + lo ≤ R.locals) (hcl : cells + mc ≤ R.cells) (hsl : slots + ms ≤ R.slots) (hcat : (rest.map fun v => v.category).sum ≤ 8) (hd : decode cc pc = .ok (.invokestatic index, 3)) (hst : st = As.reverse ++ rest) (kx : ∀ (E : String) (w1 : va_W), OX E w1 → jj_Y p l e R s m args below meth c nL A Q (jj_X D A (wr ++ w1)) (cells + mc) (slots + ms) pc lv rest E) (kk : ∀ (w1 : va_W) (r : Option Value), O w1 r → jj_J p l e R s m args below meth c nL A Q (jj_X D A (wr ++ w1)) (cells + mc) (slots + ms) (pc + 3) lv (r.toList ++ rest)) : jj_J p l e R s m args below meth c nL A Q (jj_X D A ws) cells slots pc lv st := by
  have hR := jj_pk_eq hR0
  intro H locs ls hW hS hl
  have hPr := jj_pre C hW hS isC hC hnC As
  have hg := jj_gi (own := own) (ws := [.methodLink own index y, .static y, .initialized y.cls]) (cw := .code y bytes maxL rt) (by
    intro w hw
    rcases List.mem_cons.mp hw with rfl | hw
    · exact h1
    rcases List.mem_cons.mp hw with rfl | hw
    · exact h2
    rcases List.mem_cons.mp hw with rfl | hw
    · exact h4
    · cases hw) h5
  exact jj_run (a0 := As.toArray) C hW hS hl isC isR hC hR hn hdis (vx_runS (Ts := jj_G) (As := As) (rest := rest) ⟨C.1, C.2.1, C.2.2.1, C.2.2.2.2.1, C.2.2.2.2.2.1⟩ (hM H.size) (va_cwS n C.2.2.2.2.2.1 hg rfl rfl rfl hN ⟨hfr, hlo⟩) ⟨jj_blind, hPr⟩ rfl hAs hl.1 hst (by show 2 * 0 + _ ≤ 8; omega) hd ⟨hcl, hsl⟩) kx kk
theorem jq_callSW (C : jj_C p l s m args meth c cc nL own ret D cA A ak) {y : MethodName} {bytes : ByteArray} {maxL fr lo index n : Nat} {rt : Option FieldType} {hh : List (Nat × Nat × Nat × Nat)} {As : List Value} (hM : jj_M l D cA ak y (.codeWith y bytes maxL rt hh) fr lo mc ms wc As O OX) (isC isR : List Nat) (hC : isC.map (fun i => ws[i]?) = wc.map some) (hR0 : jj_pk isR ws = some wr) (hnC : va_nd isC = true) (hn : va_nd isR = true) (hdis : ∀ i ∈ isR, i ∉ isC)
    (h1 : Cond.methodLink own index y ∈ jj_G) (h2 : Cond.static y ∈ jj_G) (h4 : Cond.initialized y.cls ∈ jj_G) (h5 : Cond.codeWith y bytes maxL rt hh ∈ jj_G) (hN : jj_N y n) (hAs : As.length = n) (hfr : fr + 1 ≤ R.frames) (hlo : 8 + (maxL + 11) + lo ≤ R.locals) (hcl : cells + mc ≤ R.cells) (hsl : slots + ms ≤ R.slots) (hcat : (rest.map fun v => v.category).sum ≤ 8) (hd : decode cc pc = .ok (.invokestatic index, 3)) (hst : st = As.reverse ++ rest) (kx : ∀ (E : String) (w1 : va_W), OX E w1 → jj_Y p l e R s m args below meth c nL A Q (jj_X D A (wr ++ w1)) (cells + mc) (slots + ms) pc lv rest E) (kk : ∀ (w1 : va_W) (r : Option Value), O w1 r → jj_J p l e R s m args below meth c nL A Q (jj_X D A (wr ++ w1)) (cells + mc) (slots + ms) (pc + 3) lv (r.toList ++ rest)) : jj_J p l e R s m args below meth c nL A Q (jj_X D A ws) cells slots pc lv st := by
  have hR := jj_pk_eq hR0
  intro H locs ls hW hS hl
  have hPr := jj_pre C hW hS isC hC hnC As
  have hg := jj_gi (own := own) (ws := [.methodLink own index y, .static y, .initialized y.cls]) (cw := .codeWith y bytes maxL rt hh) (by
    intro w hw
    rcases List.mem_cons.mp hw with rfl | hw
    · exact h1
    rcases List.mem_cons.mp hw with rfl | hw
    · exact h2
    rcases List.mem_cons.mp hw with rfl | hw
    · exact h4
    · cases hw) h5
  exact jj_run (a0 := As.toArray) C hW hS hl isC isR hC hR hn hdis (vx_runSX (Ts := jj_G) (As := As) (rest := rest) ⟨C.1, C.2.1, C.2.2.1, C.2.2.2.2.1, C.2.2.2.2.2.1⟩ (hM H.size) (vx_cwSW n C.2.2.2.2.2.1 hg rfl rfl rfl hN ⟨hfr, hlo⟩) ⟨jj_blind, hPr⟩ rfl hAs hl.1 hst (by show 2 * 0 + _ ≤ 8; omega) hd ⟨hcl, hsl⟩) kx kk
theorem jq_callI (C : jj_C p l s m args meth c cc nL own ret D cA A ak) {y : MethodName} {bytes : ByteArray} {maxL fr lo index n b : Nat} {As : List Value} (hM : jj_I l D cA ak y (.code y bytes maxL none) fr lo mc ms wc (.ref b :: As) O) (isC isR : List Nat) (hC : isC.map (fun i => ws[i]?) = wc.map some) (hR0 : jj_pk isR ws = some wr) (hnC : va_nd isC = true) (hn : va_nd isR = true) (hdis : ∀ i ∈ isR, i ∉ isC)
    (h1 : Cond.methodLink own index y ∈ jj_G) (h2 : Cond.instanceMethod y ∈ jj_G) (h4 : Cond.initialized y.cls ∈ jj_G) (h5 : Cond.code y bytes maxL none ∈ jj_G) (hy : y.name = "<init>") (hN : jj_N y n) (hAs : As.length = n) (hfr : fr + 1 ≤ R.frames) (hlo : 8 + (maxL + 11) + lo ≤ R.locals) (hcl : cells + mc ≤ R.cells) (hsl : slots + ms ≤ R.slots) (hcat : (rest.map fun v => v.category).sum ≤ 8) (hd : decode cc pc = .ok (.invokespecial index, 3)) (hst : st = As.reverse ++ .ref b :: rest) (kk : ∀ (w1 : va_W) (r : Option Value), O w1 r → jj_J p l e R s m args below meth c nL A Q (jj_X D A (wr ++ w1)) (cells + mc) (slots + ms) (pc + 3) lv (r.toList ++ rest)) : jj_J p l e R s m args below meth c nL A Q (jj_X D A ws) cells slots pc lv st := by
  have hR := jj_pk_eq hR0
  intro H locs ls hW hS hl
  have hPr := jj_pre C hW hS isC hC hnC (.ref b :: As)
  have hg := jj_gi (own := own) (ws := []) (cw := .code y bytes maxL none) (fun w hw => by cases hw) h5
  have ht := C.2.2.2.2.2.1
  exact jj_runI (a0 := (Value.ref b :: As).toArray) C hW hS hl isC isR hC hR hn hdis (va_runI (Ts := jj_G) (As := As) (rest := rest) ⟨C.1, C.2.1, C.2.2.1, C.2.2.2.2.1, C.2.2.2.2.2.1⟩ (hM H.size) (cwI n ht hg rfl rfl rfl (ht _ h4) (ht _ h1) (ht _ h2) hy hN ⟨hfr, hlo⟩) ⟨jj_blind, hPr⟩ rfl hAs hl.1 hst (by show 2 * 0 + _ ≤ 8; omega) hd ⟨hcl, hsl⟩) kk
end JQ
section JQ
variable {p : Program} {l : Launch} {e : Env} {R : Room} {s : State} {m : MethodId} {args : Array Value} {below : List Frame} {meth : Method} {c : Code}
variable {nL : Nat} {A : Nat → Prop} {Q : State → Prop} {Wd : Heap → Prop} {cells slots pc : Nat} {lv : List (Nat × Value)} {st rest : List Value} {cc : ByteArray} {own : String} {ret : Option FieldType} {D : va_G} {cA : Nat → ClassId} {ak : (Nat → Nat) × (Nat → Nat)} {ws wc wr : va_W} {O : va_W → Option Value → Prop} {OX : String → va_W → Prop} {mc ms : Nat}
theorem jq_callVs (C : jj_C p l s m args meth c cc nL own ret D cA A ak) {y : MethodName} {bytes : ByteArray} {maxL fr lo index n : Nat} {rt : Option FieldType} {As : List Value} {k : Nat} (hM : jj_M l D cA ak y (.code y bytes maxL rt) fr lo mc ms wc (.ref (ak.1 k) :: As) O OX) (isC isR : List Nat) (hC : isC.map (fun i => ws[i]?) = wc.map some) (hR0 : jj_pk isR ws = some wr) (hnC : va_nd isC = true) (hn : va_nd isR = true) (hdis : ∀ i ∈ isR, i ∉ isC) (k0 : Nat) (hk : k < jj_n) (hr0 : y.cls = "java/lang/String")
    (h1 : Cond.methodLink own index y ∈ jj_G) (h2 : Cond.instanceMethod y ∈ jj_G) (h3 : Cond.selects y.cls y y ∈ jj_G) (h4 : Cond.initialized y.cls ∈ jj_G) (h5 : Cond.code y bytes maxL rt ∈ jj_G) (hN : jj_N y n) (hAs : As.length = n) (hfr : fr + 1 ≤ R.frames) (hlo : 8 + (maxL + 11) + lo ≤ R.locals) (hcl : cells + mc ≤ R.cells) (hsl : slots + ms ≤ R.slots) (hcat : (rest.map fun v => v.category).sum ≤ 8) (hd : decode cc pc = .ok (.invokevirtual index, 3)) (hst : st = As.reverse ++ .ref (ak.1 k) :: rest) (kx : ∀ (E : String) (w1 : va_W), OX E w1 → jj_Y p l e R s m args below meth c nL A Q (jj_X D A (wr ++ w1)) (cells + mc) (slots + ms) pc lv rest E) (kk : ∀ (w1 : va_W) (r : Option Value), O w1 r → jj_J p l e R s m args below meth c nL A Q (jj_X D A (wr ++ w1)) (cells + mc) (slots + ms) (pc + 3) lv (r.toList ++ rest)) : jj_J p l e R s m args below meth c nL A Q (jj_X D A ws) cells slots pc lv st := by
  have hR := jj_pk_eq hR0
  intro H locs ls hW hS hl
  have hPr := jj_pre C hW hS isC hC hnC (.ref (ak.1 k) :: As)
  have hrv : ∃ cell : Cell, H[ak.1 k]? = some cell ∧ cell.vm.isStatics = false ∧ s.vm.findClass y.cls = some cell.cls := by
    rw [hr0]
    obtain ⟨cell, g1, g2, g3, -⟩ := (C.2.2.2.2.2.2.2.2.2.2.2.2.2.2.2.2.2.1 k hk).1.kept hS.2.1
    exact ⟨cell, g1, g2, g3⟩
  have hg := jj_gi (own := own) (ws := [.methodLink own index y, .instanceMethod y, .selects y.cls y y, .initialized y.cls]) (cw := .code y bytes maxL rt) (by
    intro w hw
    rcases List.mem_cons.mp hw with rfl | hw
    · exact h1
    rcases List.mem_cons.mp hw with rfl | hw
    · exact h2
    rcases List.mem_cons.mp hw with rfl | hw
    · exact h3
    rcases List.mem_cons.mp hw with rfl | hw
    · exact h4
    · cases hw) h5
  exact jj_run (a0 := (Value.ref (ak.1 k) :: As).toArray) C hW hS hl isC isR hC hR hn hdis (vx_runV (Ts := jj_G) (As := As) (rest := rest) ⟨C.1, C.2.1, C.2.2.1, C.2.2.2.2.1, C.2.2.2.2.2.1⟩ (hM H.size) (cwV n C.2.2.2.2.2.1 hg rfl rfl rfl ⟨rfl, hN⟩ ⟨hfr, hlo⟩) ⟨jj_blind, hrv, hPr⟩ rfl hAs hl.1 hst (by show 2 * 0 + _ ≤ 8; omega) hd ⟨hcl, hsl⟩) kx kk
theorem jq_callIN (C : jj_C p l s m args meth c cc nL own ret D cA A ak) {y : MethodName} {bytes : ByteArray} {host : String} {maxL fr lo index n b : Nat} {As : List Value} (hM : jj_I l D cA ak y (.code y bytes maxL none) fr lo mc ms wc (.ref b :: As) O) (isC isR : List Nat) (hC : isC.map (fun i => ws[i]?) = wc.map some) (hR0 : jj_pk isR ws = some wr) (hnC : va_nd isC = true) (hn : va_nd isR = true) (hdis : ∀ i ∈ isR, i ∉ isC)
    (h1 : (own, index, y, host) ∈ jj_nest) (h2 : Cond.instanceMethod y ∈ jj_G) (h4 : Cond.initialized y.cls ∈ jj_G) (h5 : Cond.code y bytes maxL none ∈ jj_G) (hy : y.name = "<init>") (hN : jj_N y n) (hAs : As.length = n) (hfr : fr + 1 ≤ R.frames) (hlo : 8 + (maxL + 11) + lo ≤ R.locals) (hcl : cells + mc ≤ R.cells) (hsl : slots + ms ≤ R.slots) (hcat : (rest.map fun v => v.category).sum ≤ 8) (hd : decode cc pc = .ok (.invokespecial index, 3)) (hst : st = As.reverse ++ .ref b :: rest) (kk : ∀ (w1 : va_W) (r : Option Value), O w1 r → jj_J p l e R s m args below meth c nL A Q (jj_X D A (wr ++ w1)) (cells + mc) (slots + ms) (pc + 3) lv (r.toList ++ rest)) : jj_J p l e R s m args below meth c nL A Q (jj_X D A ws) cells slots pc lv st := by
  have hR := jj_pk_eq hR0
  intro H locs ls hW hS hl
  have hPr := jj_pre C hW hS isC hC hnC (.ref b :: As)
  have hg := jj_gi (own := own) (ws := []) (cw := .code y bytes maxL none) (fun w hw => by cases hw) h5
  have ht := C.2.2.2.2.2.1
  exact jj_runI (a0 := (Value.ref b :: As).toArray) C hW hS hl isC isR hC hR hn hdis (va_runIN (Ts := jj_G) (As := As) (rest := rest) ⟨C.1, C.2.1, C.2.2.1, C.2.2.2.2.1, C.2.2.2.2.2.1⟩ (hM H.size) ⟨va_cnB n ht hg rfl rfl rfl (C.2.2.2.2.2.2.2.2.2.2.2.2.2.2.2.2.2.2.2.1 _ h1) (ht _ h4) hN ⟨hfr, hlo⟩, hy, ht _ h2⟩ ⟨jj_blind, hPr⟩ rfl hAs hl.1 hst (by show 2 * 0 + _ ≤ 8; omega) hd ⟨hcl, hsl⟩) kk
end JQ
/-! turned from vx_ofW of the kit: a method of a class that is not plainly named, itself no native -/
theorem nx_ofW {l : Launch} {y : MethodName} {ws ws' : List Cond} {rm : Room} {Pc : Array Value → State → Prop} {Qc : Array Value → State → Outcome → State → Prop} {XC : String → State → State → Prop} {mc ms : Nat} {free : Addr → Prop} {cc : ByteArray} {maxL : Nat} {ret : Option FieldType}
    (hy : plainFor y = true) (hw : ws = Cond.code y cc maxL ret :: ws')
    (body : ∀ p e s m args below meth c s₁, BodyLoose p l y (headSpec ws rm) cc maxL ret e s m args below meth c s₁ → c.maxLocals = maxL → (∀ x ∈ c.exceptionTable.toList, False) → Pc args s →
      W p l e (headSpec ws rm).room s m args below meth c s.heap [] 0 0 (vx_MQ below Qc XC args s mc ms free) (entryFrame m args maxL)) : vx_Met l y ws rm Pc Qc XC mc ms free := by
  refine MetFree.of_bodySF (code := cc) (maxLocals := maxL) (ret := ret) hy ?_ ?_
  · intro args s m h hn
    obtain ⟨meth, c, h1, h2, h3, h4, h5, h6, -, -⟩ := Cond.code_spec hn (atoms_spec (ws := ws) h _ (by rw [hw]; exact List.mem_cons_self))
    exact ⟨meth, c, h1, h2, h3, h4, h5, h6⟩
  · intro p e s m args below meth c s₁ B hml hP _
    have hh0 : s₁.heap = s.heap := by rw [B.state]; rfl
    have ht : ∀ x ∈ c.exceptionTable.toList, False := by
      obtain ⟨meth9, c9, h1, h2, -, -, -, -, h7, -⟩ := Cond.code_spec B.named (atoms_spec (ws := ws) B.pre _ (by rw [hw]; exact List.mem_cons_self))
      cases Option.some.inj (h1.symm.trans B.method)
      cases Option.some.inj (h2.symm.trans (Stand.of_body B).code)
      intro x hx
      rw [Array.isEmpty_iff.mp h7] at hx
      cases hx
    obtain ⟨t, a1, o, b1, b2, b3⟩ := body p e s m args below meth c s₁ B hml ht hP s₁ hh0 (Stand.of_body B)
    exact ⟨t, o, a1, b1, b2, b3⟩
theorem jq_startF {l : Launch} {D : va_G} {cA : Nat → ClassId} {ak : (Nat → Nat) × (Nat → Nat)} {y : MethodName} {cc : ByteArray} {maxL : Nat} {ret : Option FieldType} {fr lo mc ms : Nat} {wi : va_W} {as : List Value} {O : va_W → Option Value → Prop} {OX : String → va_W → Prop} (hl : l.stackTraces = false) (hy : plainFor y = true) (hc : Cond.code y cc maxL ret ∈ jj_G) (hn : (lg_sl as).length ≤ maxL)
    (body : ∀ (p : Program) (e : Env) (s : State) (m : MethodId) (args : Array Value) (below : List Frame) (meth : Method) (c : Code) (A : Nat → Prop), args = as.toArray → A = va_A wi s.heap.size → jj_C p l s m args meth c cc maxL y.cls ret D cA A ak → (∀ x ∈ c.exceptionTable.toList, False) → (meth.name = y.name) →
      jj_J p l e (jj_rm fr lo mc ms) s m args below meth c maxL A (vx_MQ below (jj_q D A O) (jj_x D A OX) args s mc ms A) (jj_X D A wi) 0 0 0 (lv_args 0 as) []) : jj_M l D cA ak y (.code y cc maxL ret) fr lo mc ms wi as O OX := by
  intro sz
  refine nx_ofW (cc := cc) (maxL := maxL) (ret := ret) hy rfl ?_
  intro p e s m args below meth c s₁ B hml hex hv
  obtain ⟨rfl, hsz, hP, hK, hD0, hB⟩ := hv
  subst hsz
  have hts := atoms_spec (ws := Cond.code y cc maxL ret :: jj_G) B.pre
  have hown : s.vm.findClass y.cls = some m.cls := findClass_of_methodNamed B.named
  have C : jj_C p l s m as.toArray meth c cc maxL y.cls ret D cA (va_A wi s.heap.size) ak := ⟨B.exec, B.bytes, hml, B.returns, hown, fun w hw => hts w (List.mem_cons_of_mem _ hw), B.notSynchronized, hK, fun q h => Or.inr h, hl, hB⟩
  rw [lg_entry_eq]
  exact body p e s m as.toArray below meth c _ rfl rfl C hex (name_of_methodNamed B.named B.method).1 s.heap [] _ ⟨hP, hD0.self⟩ va_S.rf (lv_entry as hn)
theorem jc_lt {x y : Int32} {a b : Int} (h : x < y) (hx : x.toInt = a) (hy : y.toInt = b) : a < b := by rw [← hx, ← hy]; exact Int32.lt_iff_toInt_lt.mp h
theorem jc_le {x y : Int32} {a b : Int} (h : x ≤ y) (hx : x.toInt = a) (hy : y.toInt = b) : a ≤ b := by rw [← hx, ← hy]; exact Int32.le_iff_toInt_le.mp h
theorem jc_nlt {x y : Int32} {a b : Int} (h : ¬ x < y) (hx : x.toInt = a) (hy : y.toInt = b) : b ≤ a := by rw [← hx, ← hy]; exact Int32.le_iff_toInt_le.mp (Int32.not_lt.mp h)
theorem jc_nle {x y : Int32} {a b : Int} (h : ¬ x ≤ y) (hx : x.toInt = a) (hy : y.toInt = b) : b < a := by rw [← hx, ← hy]; exact Int32.lt_iff_toInt_lt.mp (Int32.not_le.mp h)
theorem jc_eq {x y : Int32} {a b : Int} (h : x = y) (hx : x.toInt = a) (hy : y.toInt = b) : a = b := by rw [← hx, ← hy, h]
theorem jc_neq {x y : Int32} {a b : Int} (h : ¬ x = y) (hx : x.toInt = a) (hy : y.toInt = b) : ¬ a = b := by rw [← hx, ← hy]; exact fun z => h (Int32.toInt_inj.mp z)
theorem jc_ltL {x y : Int64} {a b : Int} (h : x < y) (hx : x.toInt = a) (hy : y.toInt = b) : a < b := by rw [← hx, ← hy]; exact Int64.lt_iff_toInt_lt.mp h
theorem jc_leL {x y : Int64} {a b : Int} (h : x ≤ y) (hx : x.toInt = a) (hy : y.toInt = b) : a ≤ b := by rw [← hx, ← hy]; exact Int64.le_iff_toInt_le.mp h
theorem jc_nltL {x y : Int64} {a b : Int} (h : ¬ x < y) (hx : x.toInt = a) (hy : y.toInt = b) : b ≤ a := by rw [← hx, ← hy]; exact Int64.le_iff_toInt_le.mp (Int64.not_lt.mp h)
theorem jc_nleL {x y : Int64} {a b : Int} (h : ¬ x ≤ y) (hx : x.toInt = a) (hy : y.toInt = b) : b < a := by rw [← hx, ← hy]; exact Int64.lt_iff_toInt_lt.mp (Int64.not_le.mp h)
theorem jc_eqL {x y : Int64} {a b : Int} (h : x = y) (hx : x.toInt = a) (hy : y.toInt = b) : a = b := by rw [← hx, ← hy, h]
theorem jc_neqL {x y : Int64} {a b : Int} (h : ¬ x = y) (hx : x.toInt = a) (hy : y.toInt = b) : ¬ a = b := by rw [← hx, ← hy]; exact fun z => h (Int64.toInt_inj.mp z)
theorem jc_z (x : Int32) : (0 + x.toInt64).toInt = x.toInt := by rw [Int64.zero_add, Int32.toInt_toInt64]
