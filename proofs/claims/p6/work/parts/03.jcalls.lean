/-- as jj_J, with an exception of the class E thrown over the frame -/
def jj_Y (p : Program) (l : Launch) (e : Env) (R : Room) (s : State) (m : MethodId) (args : Array Value) (below : List Frame) (meth : Method) (c : Code) (nL : Nat) (A : Nat → Prop) (Q : State → Prop) (Wd : Heap → Prop) (cells slots pc : Nat) (lv : List (Nat × Value)) (rest : List Value) (E : String) : Prop :=
  ∀ (H : Heap) (locs : List Loc) (ls : Array Slot) (ce : Cell) (q9 : Addr), Wd H → va_S A s.heap H locs → lv_has ls nL lv → H[q9]? = some ce → ce.vm = .none → s.vm.findClass E = some ce.cls → vx_W p l e R s m args below meth c H locs cells slots Q (F0 m pc ls rest) q9
theorem jj_fm {α β : Type} {f : α → Option β} : ∀ {is : List α} {wc : List β}, is.map f = wc.map some → is.filterMap f = wc
  | [], [], _ => rfl
  | [], _ :: _, h => by cases h
  | _ :: _, [], h => by cases h
  | i :: is, w :: wc, h => by
    rw [List.map_cons, List.map_cons] at h
    injection h with h1 h2
    rw [List.filterMap_cons, h1]
    show w :: is.filterMap f = w :: wc
    rw [jj_fm h2]
section JC
variable {p : Program} {l : Launch} {e : Env} {R : Room} {s : State} {m : MethodId} {args : Array Value} {below : List Frame} {meth : Method} {c : Code}
variable {nL : Nat} {A : Nat → Prop} {Q : State → Prop} {Wd : Heap → Prop} {cells slots pc : Nat} {lv : List (Nat × Value)} {st rest : List Value} {cc : ByteArray} {own : String} {ret : Option FieldType} {D : va_G} {cA : Nat → ClassId} {ak : (Nat → Nat) × (Nat → Nat)} {ws wc wr : va_W} {O : va_W → Option Value → Prop} {OX : String → va_W → Prop} {mc ms : Nat}
theorem jj_apd {wt : va_W} (h : jj_ap wr ws = some wt) (kk : jj_J p l e R s m args below meth c nL A Q (jj_X D A wt) cells slots pc lv st) : jj_J p l e R s m args below meth c nL A Q (jj_X D A (wr ++ ws)) cells slots pc lv st := by rw [jj_ap_eq h]; exact kk
/-- what a callee is given -/
theorem jj_pre (C : jj_C p l s m args meth c cc nL own ret D cA A ak) {H : Heap} {locs : List Loc} (hW : jj_X D A ws H) (hS : va_S A s.heap H locs) (isC : List Nat) (hC : isC.map (fun i => ws[i]?) = wc.map some) (hnC : va_nd isC = true) (As : List Value) : ∀ U : State, U.heap = H → s.WarmedH U.vm → jj_p D cA ak wc H.size As As.toArray U := by
  intro U hU hWm
  have hF := va_free hW.2 hS C.2.2.2.2.2.2.2.2.1 isC hC
  have hB := (C.2.2.2.2.2.2.2.2.2.2.kept (H1 := H) hS.2.1).narrow hF
  refine ⟨rfl, by rw [hU], by rw [hU]; exact hW.1.sub isC (jj_fm hC), va_K.moved hWm.alike C.2.2.2.2.2.2.2.1, (hW.2.sub isC hnC hC).weaken (fun _ _ _ _ => trivial), ?_⟩
  rw [hU]
  exact jj_B.warm hWm hB
theorem jj_run (C : jj_C p l s m args meth c cc nL own ret D cA A ak) {H : Heap} {locs : List Loc} {ls : Array Slot} {a0 : Array Value} (hW : jj_X D A ws H) (hS : va_S A s.heap H locs) (hl : lv_has ls nL lv) (isC isR : List Nat) (hC : isC.map (fun i => ws[i]?) = wc.map some) (hR : isR.map (fun i => ws[i]?) = wr.map some) (hn : va_nd isR = true) (hdis : ∀ i ∈ isR, i ∉ isC)
    (hr : vx_Run p l e R s m args below meth c H locs cells slots mc ms (F0 m pc ls st) rest (jj_q D (va_A wc H.size) O a0) (jj_x D (va_A wc H.size) OX) (va_A wc H.size))
    (kx : ∀ (E : String) (w1 : va_W), OX E w1 → jj_Y p l e R s m args below meth c nL A Q (jj_X D A (wr ++ w1)) (cells + mc) (slots + ms) pc lv rest E) (kk : ∀ (w1 : va_W) (r : Option Value), O w1 r → jj_J p l e R s m args below meth c nL A Q (jj_X D A (wr ++ w1)) (cells + mc) (slots + ms) (pc + 3) lv (r.toList ++ rest)) : W p l e R s m args below meth c H locs cells slots Q (F0 m pc ls st) := by
  have hF := va_free hW.2 hS C.2.2.2.2.2.2.2.2.1 isC hC
  intro T hT X
  rcases hr T hT X with ⟨v, st₀, t, T', L, h0, X', hL, e1, e2, ⟨⟨w1, r, hO, hv, hX1⟩, hFr⟩, sp⟩ | ⟨q, st₀, t, T', L, E, ce, h0, X', hL, e1, e2, ⟨⟨w1, hO, hX1⟩, hFr⟩, hce, hcv, hcl, sp⟩
  · cases hv
    obtain ⟨k1, k2, k3⟩ := vx_keep h0 e1 hS (fun q _ h => hF q h) hF hL hFr
    rw [← e1] at hX1
    obtain ⟨hP2, hD2⟩ := va_join hW.1 hW.2 isC isR hC hR hn hdis k2 hF hX1.1 hX1.2
    obtain ⟨t2, a1, b1⟩ := kk w1 _ hO T'.heap (locs ++ L) ls ⟨hP2, hD2⟩ k3 hl T' rfl X'
    exact ⟨t2, sp t2 a1, b1⟩
  · obtain ⟨k1, k2, k3⟩ := vx_keep h0 e1 hS (fun q _ h => hF q h) hF hL hFr
    rw [← e1] at hX1
    obtain ⟨hP2, hD2⟩ := va_join hW.1 hW.2 isC isR hC hR hn hdis k2 hF hX1.1 hX1.2
    obtain ⟨t2, a1, b1⟩ := kx E w1 hO T'.heap (locs ++ L) ls ce q ⟨hP2, hD2⟩ k3 hl (by rw [e1]; exact hce) hcv hcl T' rfl X'
    exact ⟨t2, sp.trans a1, b1⟩
theorem jj_runI (C : jj_C p l s m args meth c cc nL own ret D cA A ak) {H : Heap} {locs : List Loc} {ls : Array Slot} {a0 : Array Value} (hW : jj_X D A ws H) (hS : va_S A s.heap H locs) (hl : lv_has ls nL lv) (isC isR : List Nat) (hC : isC.map (fun i => ws[i]?) = wc.map some) (hR : isR.map (fun i => ws[i]?) = wr.map some) (hn : va_nd isR = true) (hdis : ∀ i ∈ isR, i ∉ isC)
    (hr : va_Run p l e R s m args below meth c H locs cells slots mc ms (F0 m pc ls st) rest (jj_q D (va_A wc H.size) O a0) (va_A wc H.size))
    (kk : ∀ (w1 : va_W) (r : Option Value), O w1 r → jj_J p l e R s m args below meth c nL A Q (jj_X D A (wr ++ w1)) (cells + mc) (slots + ms) (pc + 3) lv (r.toList ++ rest)) : W p l e R s m args below meth c H locs cells slots Q (F0 m pc ls st) := by
  have hF := va_free hW.2 hS C.2.2.2.2.2.2.2.2.1 isC hC
  intro T hT X
  obtain ⟨v, st₀, t, T', L, h0, X', hL, e1, e2, ⟨⟨w1, r, hO, hv, hX1⟩, hFr⟩, sp⟩ := hr T hT X
  cases hv
  obtain ⟨k1, k2, k3⟩ := vx_keep h0 e1 hS (fun q _ h => hF q h) hF hL hFr
  rw [← e1] at hX1
  obtain ⟨hP2, hD2⟩ := va_join hW.1 hW.2 isC isR hC hR hn hdis k2 hF hX1.1 hX1.2
  obtain ⟨t2, a1, b1⟩ := kk w1 _ hO T'.heap (locs ++ L) ls ⟨hP2, hD2⟩ k3 hl T' rfl X'
  exact ⟨t2, sp t2 a1, b1⟩
/-- facts of a callee's name, decided once a callee -/
def jj_N (y : MethodName) (n : Nat) : Prop := y.cls ≠ "java/lang/invoke/MethodHandle" ∧ y.cls ≠ "java/lang/invoke/VarHandle" ∧ (parseMethodDescriptor y.desc).map (fun d => d.parameters.length) = some n
theorem jj_callV (C : jj_C p l s m args meth c cc nL own ret D cA A ak) {y : MethodName} {bytes : ByteArray} {maxL fr lo index n b : Nat} {rt : Option FieldType} {As : List Value} (hM : jj_M l D cA ak y (.code y bytes maxL rt) fr lo mc ms wc (.ref b :: As) O OX) (isC isR : List Nat) (hC : isC.map (fun i => ws[i]?) = wc.map some) (hR : isR.map (fun i => ws[i]?) = wr.map some) (hnC : va_nd isC = true) (hn : va_nd isR = true) (hdis : ∀ i ∈ isR, i ∉ isC) {ci : Nat} {fs : List Value} {r0 : vw_C} (qc : Nat) (hrc : wc[qc]? = some (b, .inr (ci, fs))) (hcc : vwCl[ci]? = some r0) (hr0 : r0.1 = y.cls)
    (h1 : Cond.methodLink own index y ∈ jj_G) (h2 : Cond.instanceMethod y ∈ jj_G) (h3 : Cond.selects y.cls y y ∈ jj_G) (h4 : Cond.initialized y.cls ∈ jj_G) (h5 : Cond.code y bytes maxL rt ∈ jj_G) (hN : jj_N y n) (hAs : As.length = n) (hfr : fr + 1 ≤ R.frames) (hlo : 8 + (maxL + 11) + lo ≤ R.locals) (hcl : cells + mc ≤ R.cells) (hsl : slots + ms ≤ R.slots) (hcat : (rest.map fun v => v.category).sum ≤ 8) (hd : decode cc pc = .ok (.invokevirtual index, 3)) (hst : st = As.reverse ++ .ref b :: rest) (kx : ∀ (E : String) (w1 : va_W), OX E w1 → jj_Y p l e R s m args below meth c nL A Q (jj_X D A (wr ++ w1)) (cells + mc) (slots + ms) pc lv rest E) (kk : ∀ (w1 : va_W) (r : Option Value), O w1 r → jj_J p l e R s m args below meth c nL A Q (jj_X D A (wr ++ w1)) (cells + mc) (slots + ms) (pc + 3) lv (r.toList ++ rest)) : jj_J p l e R s m args below meth c nL A Q (jj_X D A ws) cells slots pc lv st := by
  intro H locs ls hW hS hl
  have hPr := jj_pre C hW hS isC hC hnC (.ref b :: As)
  have hrv : ∃ cell : Cell, H[b]? = some cell ∧ cell.vm.isStatics = false ∧ s.vm.findClass y.cls = some cell.cls := by
    rw [← hr0]
    exact va_recv C.2.2.2.2.2.2.2.1 (hW.1.sub isC (jj_fm hC)) hcc hrc
  have hg := jj_gi (own := own) (ws := [.methodLink own index y, .instanceMethod y, .selects y.cls y y, .initialized y.cls]) (cw := .code y bytes maxL rt) (by
    intro w hw
    rcases List.mem_cons.mp hw with rfl | hw
    · exact h1
    rcases List.mem_cons.mp hw with rfl | hw
    · exact h2
    rcases List.mem_cons.mp hw with rfl | hw
    · exact h3
    rcases List.mem_cons.mp hw with rfl | hw
    · exact h4
    · cases hw) h5
  exact jj_run (a0 := (Value.ref b :: As).toArray) C hW hS hl isC isR hC hR hn hdis (vx_runV (Ts := jj_G) (As := As) (rest := rest) ⟨C.1, C.2.1, C.2.2.1, C.2.2.2.2.1, C.2.2.2.2.2.1⟩ (hM H.size) (cwV n C.2.2.2.2.2.1 hg rfl rfl rfl ⟨rfl, hN⟩ ⟨hfr, hlo⟩) ⟨jj_blind, hrv, hPr⟩ rfl hAs hl.1 hst (by show 2 * 0 + _ ≤ 8; omega) hd ⟨hcl, hsl⟩) kx kk
theorem jj_callS (C : jj_C p l s m args meth c cc nL own ret D cA A ak) {y : MethodName} {bytes : ByteArray} {maxL fr lo index n : Nat} {rt : Option FieldType} {As : List Value} (hM : jj_M l D cA ak y (.code y bytes maxL rt) fr lo mc ms wc As O OX) (isC isR : List Nat) (hC : isC.map (fun i => ws[i]?) = wc.map some) (hR : isR.map (fun i => ws[i]?) = wr.map some) (hnC : va_nd isC = true) (hn : va_nd isR = true) (hdis : ∀ i ∈ isR, i ∉ isC)
    (h1 : Cond.methodLink own index y ∈ jj_G) (h2 : Cond.static y ∈ jj_G) (h4 : Cond.initialized y.cls ∈ jj_G) (h5 : Cond.code y bytes maxL rt ∈ jj_G) (hN : jj_N y n) (hAs : As.length = n) (hfr : fr + 1 ≤ R.frames) (hlo : 8 + (maxL + 11) + lo ≤ R.locals) (hcl : cells + mc ≤ R.cells) (hsl : slots + ms ≤ R.slots) (hcat : (rest.map fun v => v.category).sum ≤ 8) (hd : decode cc pc = .ok (.invokestatic index, 3)) (hst : st = As.reverse ++ rest) (kx : ∀ (E : String) (w1 : va_W), OX E w1 → jj_Y p l e R s m args below meth c nL A Q (jj_X D A (wr ++ w1)) (cells + mc) (slots + ms) pc lv rest E) (kk : ∀ (w1 : va_W) (r : Option Value), O w1 r → jj_J p l e R s m args below meth c nL A Q (jj_X D A (wr ++ w1)) (cells + mc) (slots + ms) (pc + 3) lv (r.toList ++ rest)) : jj_J p l e R s m args below meth c nL A Q (jj_X D A ws) cells slots pc lv st := by
  intro H locs ls hW hS hl
  have hPr := jj_pre C hW hS isC hC hnC As
  have hg := jj_gi (own := own) (ws := [.methodLink own index y, .static y, .initialized y.cls]) (cw := .code y bytes maxL rt) (by
    intro w hw
    rcases List.mem_cons.mp hw with rfl | hw
    · exact h1
    rcases List.mem_cons.mp hw with rfl | hw
    · exact h2
    rcases List.mem_cons.mp hw with rfl | hw
    · exact h4
    · cases hw) h5
  exact jj_run (a0 := As.toArray) C hW hS hl isC isR hC hR hn hdis (vx_runS (Ts := jj_G) (As := As) (rest := rest) ⟨C.1, C.2.1, C.2.2.1, C.2.2.2.2.1, C.2.2.2.2.2.1⟩ (hM H.size) (va_cwS n C.2.2.2.2.2.1 hg rfl rfl rfl hN ⟨hfr, hlo⟩) ⟨jj_blind, hPr⟩ rfl hAs hl.1 hst (by show 2 * 0 + _ ≤ 8; omega) hd ⟨hcl, hsl⟩) kx kk
theorem jj_callSW (C : jj_C p l s m args meth c cc nL own ret D cA A ak) {y : MethodName} {bytes : ByteArray} {maxL fr lo index n : Nat} {rt : Option FieldType} {hh : List (Nat × Nat × Nat × Nat)} {As : List Value} (hM : jj_M l D cA ak y (.codeWith y bytes maxL rt hh) fr lo mc ms wc As O OX) (isC isR : List Nat) (hC : isC.map (fun i => ws[i]?) = wc.map some) (hR : isR.map (fun i => ws[i]?) = wr.map some) (hnC : va_nd isC = true) (hn : va_nd isR = true) (hdis : ∀ i ∈ isR, i ∉ isC)
    (h1 : Cond.methodLink own index y ∈ jj_G) (h2 : Cond.static y ∈ jj_G) (h4 : Cond.initialized y.cls ∈ jj_G) (h5 : Cond.codeWith y bytes maxL rt hh ∈ jj_G) (hN : jj_N y n) (hAs : As.length = n) (hfr : fr + 1 ≤ R.frames) (hlo : 8 + (maxL + 11) + lo ≤ R.locals) (hcl : cells + mc ≤ R.cells) (hsl : slots + ms ≤ R.slots) (hcat : (rest.map fun v => v.category).sum ≤ 8) (hd : decode cc pc = .ok (.invokestatic index, 3)) (hst : st = As.reverse ++ rest) (kx : ∀ (E : String) (w1 : va_W), OX E w1 → jj_Y p l e R s m args below meth c nL A Q (jj_X D A (wr ++ w1)) (cells + mc) (slots + ms) pc lv rest E) (kk : ∀ (w1 : va_W) (r : Option Value), O w1 r → jj_J p l e R s m args below meth c nL A Q (jj_X D A (wr ++ w1)) (cells + mc) (slots + ms) (pc + 3) lv (r.toList ++ rest)) : jj_J p l e R s m args below meth c nL A Q (jj_X D A ws) cells slots pc lv st := by
  intro H locs ls hW hS hl
  have hPr := jj_pre C hW hS isC hC hnC As
  have hg := jj_gi (own := own) (ws := [.methodLink own index y, .static y, .initialized y.cls]) (cw := .codeWith y bytes maxL rt hh) (by
    intro w hw
    rcases List.mem_cons.mp hw with rfl | hw
    · exact h1
    rcases List.mem_cons.mp hw with rfl | hw
    · exact h2
    rcases List.mem_cons.mp hw with rfl | hw
    · exact h4
    · cases hw) h5
  exact jj_run (a0 := As.toArray) C hW hS hl isC isR hC hR hn hdis (vx_runSX (Ts := jj_G) (As := As) (rest := rest) ⟨C.1, C.2.1, C.2.2.1, C.2.2.2.2.1, C.2.2.2.2.2.1⟩ (hM H.size) (vx_cwSW n C.2.2.2.2.2.1 hg rfl rfl rfl hN ⟨hfr, hlo⟩) ⟨jj_blind, hPr⟩ rfl hAs hl.1 hst (by show 2 * 0 + _ ≤ 8; omega) hd ⟨hcl, hsl⟩) kx kk
theorem jj_callI (C : jj_C p l s m args meth c cc nL own ret D cA A ak) {y : MethodName} {bytes : ByteArray} {maxL fr lo index n b : Nat} {As : List Value} (hM : jj_I l D cA ak y (.code y bytes maxL none) fr lo mc ms wc (.ref b :: As) O) (isC isR : List Nat) (hC : isC.map (fun i => ws[i]?) = wc.map some) (hR : isR.map (fun i => ws[i]?) = wr.map some) (hnC : va_nd isC = true) (hn : va_nd isR = true) (hdis : ∀ i ∈ isR, i ∉ isC)
    (h1 : Cond.methodLink own index y ∈ jj_G) (h2 : Cond.instanceMethod y ∈ jj_G) (h4 : Cond.initialized y.cls ∈ jj_G) (h5 : Cond.code y bytes maxL none ∈ jj_G) (hy : y.name = "<init>") (hN : jj_N y n) (hAs : As.length = n) (hfr : fr + 1 ≤ R.frames) (hlo : 8 + (maxL + 11) + lo ≤ R.locals) (hcl : cells + mc ≤ R.cells) (hsl : slots + ms ≤ R.slots) (hcat : (rest.map fun v => v.category).sum ≤ 8) (hd : decode cc pc = .ok (.invokespecial index, 3)) (hst : st = As.reverse ++ .ref b :: rest) (kk : ∀ (w1 : va_W) (r : Option Value), O w1 r → jj_J p l e R s m args below meth c nL A Q (jj_X D A (wr ++ w1)) (cells + mc) (slots + ms) (pc + 3) lv (r.toList ++ rest)) : jj_J p l e R s m args below meth c nL A Q (jj_X D A ws) cells slots pc lv st := by
  intro H locs ls hW hS hl
  have hPr := jj_pre C hW hS isC hC hnC (.ref b :: As)
  have hg := jj_gi (own := own) (ws := []) (cw := .code y bytes maxL none) (fun w hw => by cases hw) h5
  have ht := C.2.2.2.2.2.1
  exact jj_runI (a0 := (Value.ref b :: As).toArray) C hW hS hl isC isR hC hR hn hdis (va_runI (Ts := jj_G) (As := As) (rest := rest) ⟨C.1, C.2.1, C.2.2.1, C.2.2.2.2.1, C.2.2.2.2.2.1⟩ (hM H.size) (cwI n ht hg rfl rfl rfl (ht _ h4) (ht _ h1) (ht _ h2) hy hN ⟨hfr, hlo⟩) ⟨jj_blind, hPr⟩ rfl hAs hl.1 hst (by show 2 * 0 + _ ≤ 8; omega) hd ⟨hcl, hsl⟩) kk
end JC
section JT
variable {p : Program} {l : Launch} {e : Env} {R : Room} {s : State} {m : MethodId} {args : Array Value} {below : List Frame} {meth : Method} {c : Code}
variable {nL : Nat} {A : Nat → Prop} {Q : State → Prop} {cells slots pc : Nat} {lv : List (Nat × Value)} {rest : List Value} {cc : ByteArray} {own : String} {ret : Option FieldType} {D : va_G} {cA : Nat → ClassId} {ak : (Nat → Nat) × (Nat → Nat)} {ws : va_W} {O : va_W → Option Value → Prop} {OX : String → va_W → Prop} {mc ms : Nat}
/-- the words of a throw of cls by the member ic of own -/
def jj_T (own : String) (ic : Nat) (cls : String) (names : List String) : Prop := Bundle.fit cls = true ∧ (∀ n ∈ names, Bundle.fit n = true) ∧ (∀ w ∈ (vx_atS own ic cls names).filter goodWord, w ∈ tables_1) ∧ (∀ w ∈ (vx_atS own ic cls names).filter (fun w => !goodWord w), w ∈ jj_nw) ∧ (∀ w ∈ vx_atS own ic cls names, vx_ot w = true) ∧ Cond.initialized cls ∈ jj_G
theorem jj_nwOf {args : Array Value} {s : State} {A : Nat → Prop} {H : Heap} {ak : (Nat → Nat) × (Nat → Nat)} (h : jj_b ak A s H) : ∀ w ∈ jj_nw, w.before args s = true := by
  intro w hw
  rcases List.mem_append.mp hw with h1 | h1
  · obtain ⟨y, hy, rfl⟩ := List.mem_map.mp h1
    exact va_Nw.use rfl (h.2.2.2.1 y hy)
  · obtain ⟨q, hq, rfl⟩ := List.mem_map.mp h1
    exact va_Nw.use rfl (h.2.2.2.2.1 q hq)
theorem jj_throw (C : jj_C p l s m args meth c cc nL own ret D cA A ak) {cls text : String} {names : List String} {ik is ic k : Nat} (K : jj_T own ic cls names) (hw : Cond.classLink own ik cls ∈ jj_G) (hstr : (own, is, text, k) ∈ jj_str)
    (d0 : decode cc pc = .ok (.new ik, 3)) (d3 : decode cc (pc + 3) = .ok (.dup, 1)) (d4 : decode cc (pc + 4) = .ok (.ldc is, 2)) (d6 : decode cc (pc + 6) = .ok (.invokespecial ic, 3)) (d9 : decode cc (pc + 9) = .ok (.athrow, 1))
    (hex : ∀ x ∈ c.exceptionTable.toList, False) (hf : names.length + 3 < R.frames) (hlo : (rest.map fun v => v.category).sum + (13 * (names.length + 1) + 43) ≤ R.locals) (hRc : cells + 1 ≤ R.cells) (hRs : slots + 6 ≤ R.slots) (hOX : OX cls ws) (hc : cells + 1 ≤ mc) (hs : slots + 6 ≤ ms) : jj_J p l e R s m args below meth c nL A (vx_MQ below (jj_q D A O) (jj_x D A OX) args s mc ms A) (jj_X D A ws) cells slots pc lv rest := by
  intro H locs ls hW hS hl
  have hB := C.2.2.2.2.2.2.2.2.2.2
  have hG := C.2.2.2.2.2.1
  refine vx_throwS (is := is) (sa := ak.1 k) C.1 C.2.1 C.2.2.2.2.2.2.2.2.2.1 C.2.2.2.2.1 K.1 K.2.1 (hG _ hw) (hG _ K.2.2.2.2.2) (hB.2.2.2.2.2.2.1 _ hstr) (vx_hat (fun w hw => hG _ (jj_tt (K.2.2.1 w hw) (List.mem_filter.mp hw).2)) K.2.2.2.1 (jj_nwOf hB)) ?_ hB.1 hB.2.1 hS (by rw [C.2.2.1]; exact hl.1) d0 d3 d4 d6 d9 (fun x hx => (hex x hx).elim) hf hlo hRc hRs C.2.2.2.2.2.2.1 ?_ hS.2.2 hc hs
  · intro w h
    rcases List.mem_cons.mp h with rfl | h
    · rfl
    rcases List.mem_cons.mp h with rfl | h
    · rfl
    exact K.2.2.2.2.1 w h
  · intro t hA hz hk
    exact ⟨⟨ws, hOX, hW.1.kept (fun k q hq => hk q.1 (hW.1 k q hq).lt), hW.2⟩, Nat.le_trans hS.1 hz, fun q h1 h2 => (hk q (Nat.lt_of_lt_of_le h1 hS.1)).trans (hS.2.1 q h1 h2)⟩
theorem jj_throwW (C : jj_C p l s m args meth c cc nL own ret D cA A ak) {cls text : String} {names : List String} {ik is ic k : Nat} (K : jj_T own ic cls names) (hw : Cond.classLink own ik cls ∈ jj_G) (hstr : (own, is, text, k) ∈ jj_str)
    (d0 : decode cc pc = .ok (.new ik, 3)) (d3 : decode cc (pc + 3) = .ok (.dup, 1)) (d4 : decode cc (pc + 4) = .ok (.ldc_w is, 3)) (d6 : decode cc (pc + 7) = .ok (.invokespecial ic, 3)) (d9 : decode cc (pc + 10) = .ok (.athrow, 1))
    (hex : ∀ x ∈ c.exceptionTable.toList, False) (hf : names.length + 3 < R.frames) (hlo : (rest.map fun v => v.category).sum + (13 * (names.length + 1) + 43) ≤ R.locals) (hRc : cells + 1 ≤ R.cells) (hRs : slots + 6 ≤ R.slots) (hOX : OX cls ws) (hc : cells + 1 ≤ mc) (hs : slots + 6 ≤ ms) : jj_J p l e R s m args below meth c nL A (vx_MQ below (jj_q D A O) (jj_x D A OX) args s mc ms A) (jj_X D A ws) cells slots pc lv rest := by
  intro H locs ls hW hS hl
  have hB := C.2.2.2.2.2.2.2.2.2.2
  have hG := C.2.2.2.2.2.1
  refine vx_throwSW (is := is) (sa := ak.1 k) C.1 C.2.1 C.2.2.2.2.2.2.2.2.2.1 C.2.2.2.2.1 K.1 K.2.1 (hG _ hw) (hG _ K.2.2.2.2.2) (hB.2.2.2.2.2.2.1 _ hstr) (vx_hat (fun w hw => hG _ (jj_tt (K.2.2.1 w hw) (List.mem_filter.mp hw).2)) K.2.2.2.1 (jj_nwOf hB)) ?_ hB.1 hB.2.1 hS (by rw [C.2.2.1]; exact hl.1) d0 d3 d4 d6 d9 (fun x hx => (hex x hx).elim) hf hlo hRc hRs C.2.2.2.2.2.2.1 ?_ hS.2.2 hc hs
  · intro w h
    rcases List.mem_cons.mp h with rfl | h
    · rfl
    rcases List.mem_cons.mp h with rfl | h
    · rfl
    exact K.2.2.2.2.1 w h
  · intro t hA hz hk
    exact ⟨⟨ws, hOX, hW.1.kept (fun k q hq => hk q.1 (hW.1 k q hq).lt), hW.2⟩, Nat.le_trans hS.1 hz, fun q h1 h2 => (hk q (Nat.lt_of_lt_of_le h1 hS.1)).trans (hS.2.1 q h1 h2)⟩
theorem jj_out (C : jj_C p l s m args meth c cc nL own ret D cA A ak) {E : String} (hex : ∀ x ∈ c.exceptionTable.toList, False) (hOX : OX E ws) (hc : cells ≤ mc) (hs : slots ≤ ms) : jj_Y p l e R s m args below meth c nL A (vx_MQ below (jj_q D A O) (jj_x D A OX) args s mc ms A) (jj_X D A ws) cells slots pc lv rest E :=
  fun H locs ls ce q9 hW hS hl hce hcv hcl => vx_out (fun x hx => (hex x hx).elim) C.2.2.2.2.2.2.1 hce hcv hcl (fun t ht hA => ⟨⟨ws, hOX, by rw [ht]; exact hW⟩, hS.F ht⟩) hS.2.2 hc hs
theorem jj_catch (C : jj_C p l s m args meth c cc nL own ret D cA A ak) {E : String} {Wd : Heap → Prop} (pre : List ExceptionTableEntry) (x : ExceptionTableEntry) (suf : List ExceptionTableEntry) (hsplit : c.exceptionTable.toList = pre ++ x :: suf) (hpass : ∀ z ∈ pre, covers z pc = false ∨ (z.catchType ≠ 0 ∧ ∃ nm : String, Cond.classLink own z.catchType nm ∈ jj_G ∧ (E, nm) ∈ jj_nc)) (hx : covers x pc = true) (h0 : x.catchType ≠ 0) (hw : Cond.classLink own x.catchType E ∈ jj_G) (hE : (E, E) ∈ jj_castl) (kk : ∀ q9 : Nat, jj_J p l e R s m args below meth c nL A Q Wd cells slots x.handlerPc lv [.ref q9]) : jj_Y p l e R s m args below meth c nL A Q Wd cells slots pc lv rest E :=
  fun H locs ls ce q9 hW hS hl hce hcv hcl => vx_catch C.2.2.2.2.1 pre x suf hsplit (fun z hz => (hpass z hz).elim Or.inl (fun h => Or.inr ⟨h.1, h.2.elim (fun nm g => ⟨nm, C.2.2.2.2.2.1 _ g.1, C.2.2.2.2.2.2.2.2.2.2.2.2.2.2.2.1 _ g.2⟩)⟩)) hx h0 (C.2.2.2.2.2.1 _ hw) (va_Nw.use rfl (C.2.2.2.2.2.2.2.2.2.2.2.2.2.2.1 _ hE)) hce hcv hcl (kk q9 H locs ls hW hS hl)
end JT
