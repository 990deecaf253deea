/-! ===== BEGIN words of one list among another's, by their places ===== -/
theorem goodIn_r {big : List Cond} (ws : List Cond) (ps : List Nat) (hp : ws = ps.filterMap (fun i => big[i]?)) (h : ws.all goodWord = true) : GoodIn big ws := by
  intro w hw
  have h1 := List.all_eq_true.mp h w hw
  rw [hp] at hw
  obtain ⟨i, -, hi⟩ := List.mem_filterMap.mp hw
  have hm : w ∈ big := by first | exact List.mem_of_getElem? hi | exact List.getElem?_mem hi
  exact ⟨hm, good_of_word h1⟩
theorem goodIn_app {big a b : List Cond} (ha : GoodIn big a) (hb : GoodIn big b) : GoodIn big (a ++ b) := fun w h => (List.mem_append.mp h).elim (ha w) (hb w)
theorem goodIn_ca {big a b : List Cond} {c : Cond} (ha : GoodIn big (c :: a)) (hb : GoodIn big b) : GoodIn big (c :: (a ++ b)) := fun w h => (List.mem_cons.mp h).elim (fun e => ha w (List.mem_cons.mpr (Or.inl e))) (fun h => (List.mem_append.mp h).elim (fun h => ha w (List.mem_cons.mpr (Or.inr h))) (hb w))
theorem goodIn_sub {big ws : List Cond} (hm : ∀ w ∈ ws, w ∈ big) (h : ws.all goodWord = true) : GoodIn big ws := fun w hw => ⟨hm w hw, good_of_word (List.all_eq_true.mp h w hw)⟩
/-! ===== END ===== -/

/-! ===== BEGIN exceptions that leave a method, and their catching by the caller (launches without stack traces) ===== -/
section VXA
/-! The laws vx_back, vx_callV, vx_callS, vx_callSW, vx_throw0, vx_throwS follow proofs of the library, with one case more: JvmDerived/Free/Laws.lean (Back.of_free), Shelf42/LK1.lean (callV, callS), Shelf/KitTraced.lean (throwNew0V, throwNewS). -/
/-- where a method has thrown q: the class by its name, the cell, what was written, the world -/
def vx_T (XC : String → State → State → Prop) (st : State) (q : Addr) (t : State) (mc ms : Nat) (free : Addr → Prop) : Prop :=
  ∃ (E : String) (ce : Cell) (L : List Loc), XC E st t ∧ t.heap[q]? = some ce ∧ ce.vm = .none ∧ st.vm.findClass E = some ce.cls ∧ st.WarmedH t.vm ∧ st.sameButNew ({ t with vm := st.vm } : State) L mc ms ∧ ∀ z ∈ L, free z.base
def vx_Q (Qc : Array Value → State → Outcome → State → Prop) (XC : String → State → State → Prop) (mc ms : Nat) (free : Addr → Prop) : Array Value → State → Outcome → State → Prop := fun a st o t =>
  (Qc a st o t ∧ ∃ L, FrameEnd st o t L mc ms ∧ ∀ q ∈ L, free q.base) ∨ ∃ q, o = .threw q ∧ vx_T XC st q t mc ms free
/-- a callee that returns or throws -/
def vx_Met (l : Launch) (y : MethodName) (ws : List Cond) (rm : Room) (Pc : Array Value → State → Prop) (Qc : Array Value → State → Outcome → State → Prop) (XC : String → State → State → Prop) (mc ms : Nat) (free : Addr → Prop) : Prop :=
  MetFree l y (headSpec ws rm) Pc (fun _ _ _ _ _ => True) (vx_Q Qc XC mc ms free)
def vx_Post (XC : String → State → State → Prop) (mc ms : Nat) (free : Addr → Prop) : Pt → Array Value → Addr → Pt → Prop := fun A a q B =>
  ∃ (g : JFrame) (mk : MethodId) (t : State) (L : List Loc) (E : String) (ce : Cell), B.U.heap = t.heap ∧ B.U.vm = t.vm ∧ XC E (A.U.calling g mk a) t ∧ t.heap[q]? = some ce ∧ ce.vm = .none ∧ A.U.vm.findClass E = some ce.cls ∧ B.locs = A.locs ++ L ∧ (∀ z ∈ L, free z.base) ∧ B.cells = A.cells + mc ∧ B.slots = A.slots + ms
def vx_Back (l : Launch) (R : Room) (p : Program) (e : Env) (below : List Frame) (s : State) (sargs : Array Value) (y : MethodName) (len W9 : Nat)
    (Pre : Pt → Array Value → Prop) (Post : Pt → Array Value → Option Value → Pt → Prop) (PostX : Pt → Array Value → Addr → Pt → Prop) : Prop :=
  ∀ (m : MethodId) (meth : Method) (c : Code) (A : Pt) (g : JFrame) (ig : Instr) (mk : MethodId) (a : Array Value),
    Stand p l e R s m sargs below meth c A.U A.locs A.cells A.slots → g.method = m → g.locals.size = c.maxLocals → decode c.code g.pc = .ok (ig, len) →
    2 * g.monitorRoom + (g.stack.map fun v => v.category).sum ≤ W9 → A.U.methodNamed? y = some mk → Pre A a →
    (∃ (v : Option Value) (B : Pt), Stand p l e R s m sargs below meth c B.U B.locs B.cells B.slots ∧ Post A a v B ∧
      Steps p.tables e below (doInvoke e (A.U.setTop g) [] mk a).1 (B.U.setTop { g with pc := g.pc + len, stack := v.toList ++ g.stack })) ∨
    (∃ (q : Addr) (B : Pt), Stand p l e R s m sargs below meth c B.U B.locs B.cells B.slots ∧ PostX A a q B ∧
      Steps p.tables e below (doInvoke e (A.U.setTop g) [] mk a).1 ((B.U.setTop g).pushFrame (.throwing q)))
section Payer
variable {l : Launch} {R : Room} {p : Program} {e : Env} {below : List Frame} {s : State} {sargs : Array Value} {y : MethodName} {len W9 : Nat}
theorem vx_back {ws : List Cond} {rm : Room} {Pc : Array Value → State → Prop} {Qc : Array Value → State → Outcome → State → Prop} {XC : String → State → State → Prop} {mc ms : Nat} {free : Addr → Prop} {bytes : ByteArray} {maxL : Nat} {ret : Option FieldType}
    (hM : vx_Met l y ws rm Pc Qc XC mc ms free) (hblind : FrameBlind Pc) (hrc : rm.cells = mc) (hrs : rm.slots = ms)
    (hframes : rm.frames + 1 ≤ R.frames) (hlocals : W9 + (maxL + 11) + rm.locals ≤ R.locals)
    (hws : ∀ w ∈ ws, ∀ a' U, s.WarmedH U.vm → w.before a' U = true) (hcode : Cond.code y bytes maxL ret ∈ ws) (hinit : ∀ a' U, s.WarmedH U.vm → (Cond.initialized y.cls).before a' U = true) :
    vx_Back l R p e below s sargs y len W9 (PreOf R mc ms Pc) (PostOf Qc mc ms free) (vx_Post XC mc ms free) := by
  intro m meth c A g ig mk a X hg hsize hdg hW hn hp
  have h1 : (headSpec ws rm).pre.before a A.U = true := atoms_intro fun w hw => hws w hw _ _ X.warmed
  have h2 : (Cond.code y bytes maxL ret).before a A.U = true := hws _ hcode _ _ X.warmed
  have h3 : (Cond.initialized y.cls).before a A.U = true := hinit _ _ X.warmed
  have h4 : A.cells + (headSpec ws rm).room.cells ≤ R.cells := by rw [show (headSpec ws rm).room.cells = mc from hrc]; exact hp.1
  have h5 : A.slots + (headSpec ws rm).room.slots ≤ R.slots := by rw [show (headSpec ws rm).room.slots = ms from hrs]; exact hp.2.1
  have hPc : Pc a (A.U.calling g mk a) := hblind _ _ _ _ hp.2.2
  obtain ⟨U, Ls, c0, s0⟩ := A
  dsimp only [Pt.U, Pt.locs, Pt.cells, Pt.slots] at h1 h2 h3 h4 h5 X hn hPc ⊢
  obtain ⟨methY, cY, hmY, hcY, -, hlY, -, -, -, -⟩ := Cond.code_spec hn h2
  obtain ⟨kY, hkY, -⟩ := className_of_methodNamed hn
  have hinitY : kY.init = .initialized := Cond.initialized_spec (findClass_of_methodNamed hn) hkY h3
  have h : At U g.method c below := by rw [hg]; exact X.here
  have hlocals9 : W9 + (maxL + 11) + (headSpec ws rm).room.locals ≤ R.locals := hlocals
  have happ : (headSpec ws rm).appliesLoose y e.platform (U.calling g mk a) = true :=
    Spec.appliesLoose_calling (g := g) h hdg hn hkY hinitY
      (X.room_calling (g := g) (R' := (headSpec ws rm).room) hsize hmY hcY hframes (by rw [hlY]; omega) h4 h5) h1
  obtain ⟨mid, hmid⟩ := h.above
  have hfr : (U.setTop g).frames = (.java g :: mid) ++ below := by rw [State.frames_setTop' g h.top, hmid]; rfl
  obtain ⟨o, s₂, hsteps, -, hend, hq⟩ := Steps.callFree hM p X.admits X.cas X.clock (acts := []) hfr happ hPc trivial
  have hq' : vx_Q Qc XC mc ms free a (U.calling g mk a) o s₂ := hq
  rw [State.frames_setTop' g h.top] at hend
  obtain ⟨g₀, hg0⟩ := Option.isSome_iff_exists.mp h.top
  obtain ⟨r, hr⟩ := State.topJava?_eq_some.mp hg0
  have hr' : (({ U with heap := s₂.heap, slotsUsed := s₂.slotsUsed } : State).setVm s₂.vm).frames = .java g₀ :: r := hr
  rcases hq' with ⟨hqc, L, hfe, hL⟩ | ⟨q, rfl, E, ce, L, hx, hce, hcv, hcl, hW₂, hsm, hL⟩
  · obtain ⟨⟨v, rfl⟩, hW₂, e2, q2, q3, q4, q5, q6⟩ := id hfe
    have e3 : s₂ = ({ (U.calling g mk a).setFrames s₂.frames with heap := s₂.heap, slotsUsed := s₂.slotsUsed } : State).setVm s₂.vm := by
      have : s₂ = ({ s₂ with vm := (U.calling g mk a).vm } : State).setVm s₂.vm := rfl
      rw [e2] at this
      exact this
    obtain ⟨c₂, i₂, len₂, hc₂, hd₂, hf₂⟩ := hend
    have hW' : U.WarmedH s₂.vm := hW₂
    have hcc : c₂ = c := by
      have h1 : s₂.code? g.method = U.code? g.method := by
        rw [State.code?_eq, State.code?_eq, hW'.alike.method?]
      exact Option.some.inj (hc₂.symm.trans (h1.trans h.code))
    subst hcc
    have hlen : len₂ = len := by rw [hdg] at hd₂; cases hd₂; rfl
    subst hlen
    have hs₂ : s₂ = (({ U with heap := s₂.heap, slotsUsed := s₂.slotsUsed } : State).setVm s₂.vm).setTop { g with pc := g.pc + len₂, stack := v.toList ++ g.stack } := by
      refine e3.trans ?_
      rw [hf₂, State.calling_eq h.top, State.setFrames_setFrames, State.setTop_of_frames _ hr', hr]
      rfl
    have hsame : U.sameButNew ({ U with heap := s₂.heap, slotsUsed := s₂.slotsUsed } : State) L mc ms := by
      refine ⟨?_, q2, q3, q4, q5, q6⟩
      obtain ⟨t, ht, -⟩ := State.frames_cons hr
      show ({ U with heap := s₂.heap, slotsUsed := s₂.slotsUsed } : State) = { U.setFrames U.frames with heap := s₂.heap, slotsUsed := s₂.slotsUsed }
      rw [State.setFrames_self ht]
    subst hg
    refine Or.inl ⟨v, ⟨(({ U with heap := s₂.heap, slotsUsed := s₂.slotsUsed } : State).setVm s₂.vm), Ls ++ L, c0 + mc, s0 + ms⟩,
      ⟨X.admits, X.cas, X.clock, X.frames, X.room, X.hears, X.method, X.code, (X.here.setHeapUsed s₂.heap s₂.slotsUsed).setVm hW'.alike, X.tail, State.WarmedH.trans X.warmed hW', X.limits, X.bytes, X.same.trans (hsame.setVm s.vm)⟩,
      ⟨g, mk, s₂, L, rfl, rfl, hqc, rfl, hL, rfl, rfl⟩, ?_⟩
    show Steps p.tables e below _ ((({ U with heap := s₂.heap, slotsUsed := s₂.slotsUsed } : State).setVm s₂.vm).setTop { g with pc := g.pc + len₂, stack := v.toList ++ g.stack })
    rw [← hs₂]
    exact hsteps
  · obtain ⟨e2, q2, q3, q4, q5, q6⟩ := id hsm
    have e3 : s₂ = ({ (U.calling g mk a).setFrames s₂.frames with heap := s₂.heap, slotsUsed := s₂.slotsUsed } : State).setVm s₂.vm := by
      have : s₂ = ({ s₂ with vm := (U.calling g mk a).vm } : State).setVm s₂.vm := rfl
      rw [e2] at this
      exact this
    have hf₂ : s₂.frames = .throwing q :: .java g :: U.frames.tail := hend
    have hW' : U.WarmedH s₂.vm := hW₂
    have hs₂ : s₂ = ((({ U with heap := s₂.heap, slotsUsed := s₂.slotsUsed } : State).setVm s₂.vm).setTop g).pushFrame (.throwing q) := by
      refine e3.trans ?_
      rw [hf₂, State.calling_eq h.top, State.setFrames_setFrames, State.pushFrame, State.frames_setTop _ hr', State.setTop_of_frames _ hr', State.setFrames_setFrames, hr]
      rfl
    have hsame : U.sameButNew ({ U with heap := s₂.heap, slotsUsed := s₂.slotsUsed } : State) L mc ms := by
      refine ⟨?_, q2, q3, q4, q5, q6⟩
      obtain ⟨t, ht, -⟩ := State.frames_cons hr
      show ({ U with heap := s₂.heap, slotsUsed := s₂.slotsUsed } : State) = { U.setFrames U.frames with heap := s₂.heap, slotsUsed := s₂.slotsUsed }
      rw [State.setFrames_self ht]
    subst hg
    refine Or.inr ⟨q, ⟨(({ U with heap := s₂.heap, slotsUsed := s₂.slotsUsed } : State).setVm s₂.vm), Ls ++ L, c0 + mc, s0 + ms⟩,
      ⟨X.admits, X.cas, X.clock, X.frames, X.room, X.hears, X.method, X.code, (X.here.setHeapUsed s₂.heap s₂.slotsUsed).setVm hW'.alike, X.tail, State.WarmedH.trans X.warmed hW', X.limits, X.bytes, X.same.trans (hsame.setVm s.vm)⟩,
      ⟨g, mk, s₂, L, E, ce, rfl, rfl, hx, hce, hcv, hcl, rfl, hL, rfl, rfl⟩, ?_⟩
    show Steps p.tables e below _ (((({ U with heap := s₂.heap, slotsUsed := s₂.slotsUsed } : State).setVm s₂.vm).setTop g).pushFrame (.throwing q))
    rw [← hs₂]
    exact hsteps
end Payer
section Calls
variable {p : Program} {l : Launch} {e : Env} {R : Room} {s : State} {m : MethodId} {args : Array Value} {below : List Frame} {meth : Method} {c : Code} {T : State} {locs : List Loc} {cells slots : Nat}
theorem vx_callV (X : Stand p l e R s m args below meth c T locs cells slots) (hexec : p.tables.exec = Jvm.exec) {own C : String} {index : Nat} {y : MethodName} {bytes : ByteArray} {maxL : Nat} {ret : Option FieldType}
    (hown : s.vm.findClass own = some m.cls) (hlink : (Cond.methodLink own index y).before args s = true) (hinst : (Cond.instanceMethod y).before args s = true) (hsel : (Cond.selects C y y).before args s = true)
    (hcode : (Cond.code y bytes maxL ret).before args s = true) (hy : y.cls ≠ "java/lang/invoke/MethodHandle" ∧ y.cls ≠ "java/lang/invoke/VarHandle")
    {W9 : Nat} {Pre : Pt → Array Value → Prop} {Post : Pt → Array Value → Option Value → Pt → Prop} {PostX : Pt → Array Value → Addr → Pt → Prop} (hK : vx_Back l R p e below s args y 3 W9 Pre Post PostX)
    {b : Addr} {cellB : Cell} (hcell : T.heap[b]? = some cellB) (hobj : cellB.vm.isStatics = false) (hcls : s.vm.findClass C = some cellB.cls)
    {g : JFrame} (hg : g.method = m) (hsize : g.locals.size = c.maxLocals) {argsL rest : List Value} (hlen : ∀ sig, parseMethodDescriptor y.desc = some sig → argsL.length = sig.parameters.length)
    (hstack : g.stack = argsL.reverse ++ .ref b :: rest) (hW : 2 * g.monitorRoom + (rest.map fun v => v.category).sum ≤ W9) (hdg : decode c.code g.pc = .ok (.invokevirtual index, 3))
    (hpre : ∀ vm₁, s.WarmedH vm₁ → Pre ⟨T.setVm vm₁, locs, cells, slots⟩ (Value.ref b :: argsL).toArray) :
    (∃ (v : Option Value) (vm₁ : Vm) (B : Pt), s.WarmedH vm₁ ∧ Stand p l e R s m args below meth c B.U B.locs B.cells B.slots ∧ Post ⟨T.setVm vm₁, locs, cells, slots⟩ (Value.ref b :: argsL).toArray v B ∧
      ∀ target, Steps p.tables e below (B.U.setTop { g with pc := g.pc + 3, stack := v.toList ++ rest }) target → Steps p.tables e below (T.setTop g) target) ∨
    (∃ (q : Addr) (vm₁ : Vm) (B : Pt), s.WarmedH vm₁ ∧ Stand p l e R s m args below meth c B.U B.locs B.cells B.slots ∧ PostX ⟨T.setVm vm₁, locs, cells, slots⟩ (Value.ref b :: argsL).toArray q B ∧
      Steps p.tables e below (T.setTop g) ((B.U.setTop { g with stack := rest }).pushFrame (.throwing q))) := by
  obtain ⟨mk, methM, hnamed, hmethM, hstM, habM⟩ := Cond.instanceMethod_spec hinst
  obtain ⟨methM', cM, hmethM', -, -, -, -, -, -, hsigM⟩ := Cond.code_spec hnamed hcode
  cases hmethM.symm.trans hmethM'
  obtain ⟨c2, r2, m2, q1, q2, q3, q4, kP, hkP, hkPi⟩ := Cond.selects_spec hsel
  cases hcls.symm.trans q1
  cases (State.methodFound?_of_named hnamed hy).symm.trans q2
  cases hnamed.symm.trans q3
  have hselP : selectMethod e.platform s.vm cellB.cls mk = .method mk := by rw [Launch.admits_selectMethod X.admits]; exact q4
  obtain ⟨vm₁, X₁, hstep₁⟩ := X.invokevirtual hexec hown hlink hnamed hmethM hstM hkP hkPi hy (a := b) (cell := cellB) hcell
    (fun z h => by rw [h] at hobj; cases hobj) hselP hmethM habM hkP hkPi (g := g) hg (argsL := argsL) (rest := rest) (hlen _ hsigM) hstack hdg
  rcases hK m meth c ⟨T.setVm vm₁, locs, cells, slots⟩ { g with stack := rest } (.invokevirtual index) mk (Value.ref b :: argsL).toArray X₁ hg hsize hdg hW (X₁.named hnamed) (hpre vm₁ X₁.warmed) with ⟨v, B, X', hpost, hsteps⟩ | ⟨q, B, X', hpost, hsteps⟩
  · exact Or.inl ⟨v, vm₁, B, X₁.warmed, X', hpost, fun target h => hstep₁ _ fun acts => by rw [doInvoke_state]; exact hsteps.trans h⟩
  · exact Or.inr ⟨q, vm₁, B, X₁.warmed, X', hpost, hstep₁ _ fun acts => by rw [doInvoke_state]; exact hsteps⟩
theorem vx_callS (X : Stand p l e R s m args below meth c T locs cells slots) (hexec : p.tables.exec = Jvm.exec) {own : String} {index : Nat} {y : MethodName} {bytes : ByteArray} {maxL : Nat} {ret : Option FieldType}
    (hown : s.vm.findClass own = some m.cls) (hlink : (Cond.methodLink own index y).before args s = true) (hstat : (Cond.static y).before args s = true) (hinit : (Cond.initialized y.cls).before args s = true)
    (hcode : (Cond.code y bytes maxL ret).before args s = true) (hy : y.cls ≠ "java/lang/invoke/MethodHandle" ∧ y.cls ≠ "java/lang/invoke/VarHandle")
    {W9 : Nat} {Pre : Pt → Array Value → Prop} {Post : Pt → Array Value → Option Value → Pt → Prop} {PostX : Pt → Array Value → Addr → Pt → Prop} (hK : vx_Back l R p e below s args y 3 W9 Pre Post PostX)
    {g : JFrame} (hg : g.method = m) (hsize : g.locals.size = c.maxLocals) {argsL rest : List Value} (hlen : ∀ sig, parseMethodDescriptor y.desc = some sig → argsL.length = sig.parameters.length)
    (hstack : g.stack = argsL.reverse ++ rest) (hW : 2 * g.monitorRoom + (rest.map fun v => v.category).sum ≤ W9) (hdg : decode c.code g.pc = .ok (.invokestatic index, 3))
    (hpre : ∀ vm₁, s.WarmedH vm₁ → Pre ⟨T.setVm vm₁, locs, cells, slots⟩ argsL.toArray) :
    (∃ (v : Option Value) (vm₁ : Vm) (B : Pt), s.WarmedH vm₁ ∧ Stand p l e R s m args below meth c B.U B.locs B.cells B.slots ∧ Post ⟨T.setVm vm₁, locs, cells, slots⟩ argsL.toArray v B ∧
      ∀ target, Steps p.tables e below (B.U.setTop { g with pc := g.pc + 3, stack := v.toList ++ rest }) target → Steps p.tables e below (T.setTop g) target) ∨
    (∃ (q : Addr) (vm₁ : Vm) (B : Pt), s.WarmedH vm₁ ∧ Stand p l e R s m args below meth c B.U B.locs B.cells B.slots ∧ PostX ⟨T.setVm vm₁, locs, cells, slots⟩ argsL.toArray q B ∧
      Steps p.tables e below (T.setTop g) ((B.U.setTop { g with stack := rest }).pushFrame (.throwing q))) := by
  obtain ⟨mk, hnamed⟩ := Cond.code_named hcode
  obtain ⟨methM, cM, hmethM, -, -, -, -, -, -, hsigM⟩ := Cond.code_spec hnamed hcode
  have hstatic : methM.isStatic = true := Cond.static_spec hnamed hmethM hstat
  obtain ⟨kP, hkP, -⟩ := className_of_methodNamed hnamed
  have hinitP : kP.init = .initialized := Cond.initialized_spec (findClass_of_methodNamed hnamed) hkP hinit
  obtain ⟨vm₁, X₁, hstep₁⟩ := X.invokestatic hexec hown hlink hnamed hmethM hstatic hkP hinitP hy (g := g) hg (argsL := argsL) (rest := rest) (hlen _ hsigM) hstack hdg
  rcases hK m meth c ⟨T.setVm vm₁, locs, cells, slots⟩ { g with stack := rest } (.invokestatic index) mk argsL.toArray X₁ hg hsize hdg hW (X₁.named hnamed) (hpre vm₁ X₁.warmed) with ⟨v, B, X', hpost, hsteps⟩ | ⟨q, B, X', hpost, hsteps⟩
  · exact Or.inl ⟨v, vm₁, B, X₁.warmed, X', hpost, fun target h => hstep₁ _ fun acts => by rw [doInvoke_state]; exact hsteps.trans h⟩
  · exact Or.inr ⟨q, vm₁, B, X₁.warmed, X', hpost, hstep₁ _ fun acts => by rw [doInvoke_state]; exact hsteps⟩
end Calls
theorem vx_cls {s : State} {T : State} {vm₁ : Vm} {E : String} {k : ClassId} (hW : s.WarmedH vm₁) (h : (T.setVm vm₁).vm.findClass E = some k) : s.vm.findClass E = some k := by
  have h1 : vm₁.findClass E = some k := h
  rw [hW.alike.findClass] at h1
  exact h1
/-- the method's frame g, with q thrown over it -/
def vx_W (p : Program) (l : Launch) (e : Env) (R : Room) (s : State) (m : MethodId) (args : Array Value) (below : List Frame) (meth : Method) (c : Code) (H : Heap) (locs : List Loc) (cells slots : Nat) (Q : State → Prop) (g : JFrame) (q : Addr) : Prop :=
  ∀ T : State, T.heap = H → Stand p l e R s m args below meth c T locs cells slots → ∃ t, Steps p.tables e below ((T.setTop g).pushFrame (.throwing q)) t ∧ Q t
def vx_Run (p : Program) (l : Launch) (e : Env) (R : Room) (s : State) (m : MethodId) (args : Array Value) (below : List Frame) (meth : Method) (c : Code) (H : Heap) (locs : List Loc) (cells slots mc ms : Nat) (g : JFrame) (rest : List Value) (Qa : State → Outcome → State → Prop) (XC : String → State → State → Prop) (free : Addr → Prop) : Prop :=
  ∀ T : State, T.heap = H → Stand p l e R s m args below meth c T locs cells slots →
    (∃ (v : Option Value) (st₀ t T' : State) (L : List Loc), st₀.heap = H ∧ Stand p l e R s m args below meth c T' (locs ++ L) (cells + mc) (slots + ms) ∧ (∀ q ∈ L, free q.base) ∧ T'.heap = t.heap ∧ T'.vm = t.vm ∧ Qa st₀ (.returned v) t ∧
      Goes p e below T g T' { g with pc := g.pc + 3, stack := v.toList ++ rest }) ∨
    (∃ (q : Addr) (st₀ t T' : State) (L : List Loc) (E : String) (ce : Cell), st₀.heap = H ∧ Stand p l e R s m args below meth c T' (locs ++ L) (cells + mc) (slots + ms) ∧ (∀ z ∈ L, free z.base) ∧ T'.heap = t.heap ∧ T'.vm = t.vm ∧ XC E st₀ t ∧ t.heap[q]? = some ce ∧ ce.vm = .none ∧ s.vm.findClass E = some ce.cls ∧
      Steps p.tables e below (T.setTop g) ((T'.setTop { g with stack := rest }).pushFrame (.throwing q)))
def vx_X {S : Type} (px : S → Prop) (B : String → S → State → Prop) (A : Nat → Prop) : String → State → State → Prop := fun E st t => ∃ u : S, px u ∧ B E u t ∧ va_F A st t
section Runs
variable {p : Program} {l : Launch} {e : Env} {R : Room} {s : State} {m : MethodId} {args : Array Value} {below : List Frame} {meth : Method} {c : Code} {H : Heap} {locs : List Loc} {cells slots : Nat}
variable {y : MethodName} {bytes cc : ByteArray} {maxL nL mc ms n index : Nat} {ret : Option FieldType} {ws : List Cond} {rm : Room} {Pc : Array Value → State → Prop} {Qc : Array Value → State → Outcome → State → Prop} {XC : String → State → State → Prop} {free : Addr → Prop} {Ts : List Cond} {own C : String} {b : Addr} {As rest : List Value} {g : JFrame}
theorem vx_callBack (cb : CallB R s args own index y bytes maxL ret ws rm mc ms n) (hM : vx_Met l y ws rm Pc Qc XC mc ms free) (hbl : FrameBlind Pc) : vx_Back l R p e below s args y 3 8 (PreOf R mc ms Pc) (PostOf Qc mc ms free) (vx_Post XC mc ms free) := by
  obtain ⟨hrc, hrs, hfr, hlo, hws, hcw, -, hini, -⟩ := cb
  exact vx_back (bytes := bytes) (maxL := maxL) (ret := ret) hM hbl hrc hrs hfr hlo hws hcw (fun a' U hW => word_at hW (Or.inl (by first | rfl | simp [Cond.onTables, Cond.keeps, Cond.steady])) hini)
theorem vx_runV (S : CallFix p m c cc nL s args Ts own) (hM : vx_Met l y ws rm Pc Qc XC mc ms free) (cw : CallW R s args own C index y bytes maxL ret ws rm mc ms n) (hp : PreV s H C b Pc As)
    (hg : g.method = m) (hn : As.length = n) (hsize : g.locals.size = nL) (hstack : g.stack = As.reverse ++ .ref b :: rest) (hW : 2 * g.monitorRoom + (rest.map fun v => v.category).sum ≤ 8) (hdg : decode cc g.pc = .ok (.invokevirtual index, 3)) (hf : cells + mc ≤ R.cells ∧ slots + ms ≤ R.slots) :
    vx_Run p l e R s m args below meth c H locs cells slots mc ms g rest (Qc (Value.ref b :: As).toArray) XC free := by
  have hK : vx_Back l R p e below s args y 3 8 (PreOf R mc ms Pc) (PostOf Qc mc ms free) (vx_Post XC mc ms free) := vx_callBack cw.1 hM hp.1
  obtain ⟨⟨-, -, -, -, -, -, hcode, -, hy, hlen, hl⟩, hin, hse⟩ := cw
  obtain ⟨hx, hb, hml, ho, -⟩ := S
  obtain ⟨-, ⟨cellB, hcB, hoB, hclB⟩, hPc⟩ := hp
  intro T hT X
  rcases vx_callV X hx (C := C) (bytes := bytes) (maxL := maxL) (ret := ret) ho hl hin hse hcode hy hK (by rw [hT]; exact hcB) hoB hclB hg (hsize.trans hml.symm) (argsL := As) (rest := rest) (fun sig h => hn.trans (hlen sig h)) hstack hW (by rw [hb]; exact hdg)
    (fun vm₁ hW₁ => ⟨hf.1, hf.2, hPc (T.setVm vm₁) hT hW₁⟩) with ⟨v, vm₁, ⟨U', l2, c2, s2⟩, hW₁, X', ⟨g', mk, t, L, e1, e2, hq, h1, hL, h2, h3⟩, st⟩ | ⟨q, vm₁, ⟨U', l2, c2, s2⟩, hW₁, X', ⟨g', mk, t, L, E, ce, e1, e2, hq, hce, hcv, hcl, h1, hL, h2, h3⟩, st⟩
  · dsimp only [Pt.U, Pt.locs, Pt.cells, Pt.slots] at X' e1 e2 h1 h2 h3 st
    subst h1; subst h2; subst h3
    exact Or.inl ⟨v, (T.setVm vm₁).calling g' mk (Value.ref b :: As).toArray, t, U', L, hT, X', hL, e1, e2, hq, st⟩
  · dsimp only [Pt.U, Pt.locs, Pt.cells, Pt.slots] at X' e1 e2 h1 h2 h3 st hcl
    subst h1; subst h2; subst h3
    exact Or.inr ⟨q, (T.setVm vm₁).calling g' mk (Value.ref b :: As).toArray, t, U', L, E, ce, hT, X', hL, e1, e2, hq, hce, hcv, vx_cls hW₁ hcl, st⟩
theorem vx_runS (S : CallFix p m c cc nL s args Ts own) (hM : vx_Met l y ws rm Pc Qc XC mc ms free) (cw : CallB R s args own index y bytes maxL ret ws rm mc ms n ∧ (Cond.static y).before args s = true) (hp : PreS s H Pc As)
    (hg : g.method = m) (hn : As.length = n) (hsize : g.locals.size = nL) (hstack : g.stack = As.reverse ++ rest) (hW : 2 * g.monitorRoom + (rest.map fun v => v.category).sum ≤ 8) (hdg : decode cc g.pc = .ok (.invokestatic index, 3)) (hf : cells + mc ≤ R.cells ∧ slots + ms ≤ R.slots) :
    vx_Run p l e R s m args below meth c H locs cells slots mc ms g rest (Qc As.toArray) XC free := by
  have hK : vx_Back l R p e below s args y 3 8 (PreOf R mc ms Pc) (PostOf Qc mc ms free) (vx_Post XC mc ms free) := vx_callBack cw.1 hM hp.1
  obtain ⟨⟨-, -, -, -, -, -, hcode, hini, hy, hlen, hl⟩, hstt⟩ := cw
  obtain ⟨hx, hb, hml, ho, -⟩ := S
  intro T hT X
  rcases vx_callS X hx (bytes := bytes) (maxL := maxL) (ret := ret) ho hl hstt hini hcode hy hK hg (hsize.trans hml.symm) (argsL := As) (rest := rest) (fun sig h => hn.trans (hlen sig h)) hstack hW (by rw [hb]; exact hdg)
    (fun vm₁ hW₁ => ⟨hf.1, hf.2, hp.2 (T.setVm vm₁) hT hW₁⟩) with ⟨v, vm₁, ⟨U', l2, c2, s2⟩, hW₁, X', ⟨g', mk, t, L, e1, e2, hq, h1, hL, h2, h3⟩, st⟩ | ⟨q, vm₁, ⟨U', l2, c2, s2⟩, hW₁, X', ⟨g', mk, t, L, E, ce, e1, e2, hq, hce, hcv, hcl, h1, hL, h2, h3⟩, st⟩
  · dsimp only [Pt.U, Pt.locs, Pt.cells, Pt.slots] at X' e1 e2 h1 h2 h3 st
    subst h1; subst h2; subst h3
    exact Or.inl ⟨v, (T.setVm vm₁).calling g' mk As.toArray, t, U', L, hT, X', hL, e1, e2, hq, st⟩
  · dsimp only [Pt.U, Pt.locs, Pt.cells, Pt.slots] at X' e1 e2 h1 h2 h3 st hcl
    subst h1; subst h2; subst h3
    exact Or.inr ⟨q, (T.setVm vm₁).calling g' mk As.toArray, t, U', L, E, ce, hT, X', hL, e1, e2, hq, hce, hcv, vx_cls hW₁ hcl, st⟩
end Runs
section Rows
variable {p : Program} {l : Launch} {e : Env} {R : Room} {s : State} {m : MethodId} {args : Array Value} {below : List Frame} {meth : Method} {c : Code} {H : Heap} {locs : List Loc} {cells slots : Nat} {Q : State → Prop}
variable {mc ms : Nat} {free : Addr → Prop} {A0 A1 : Nat → Prop} {H0 : Heap} {a : Array Value} {pc : Nat} {ls : Array Slot} {st0 rest : List Value}
theorem vx_keep {st₀ t T' : State} {L : List Loc} (h0 : st₀.heap = H) (e1 : T'.heap = t.heap) (hS : va_S A0 H0 H locs) (hA : ∀ q, q < H.size → A1 q → A0 q) (hf : ∀ q, free q → A0 q) (hL : ∀ q ∈ L, free q.base) (hF : va_F A1 st₀ t) :
    H.size ≤ T'.heap.size ∧ (∀ q : Nat, q < H.size → ¬ A1 q → T'.heap[q]? = H[q]?) ∧ va_S A0 H0 T'.heap (locs ++ L) := by
  obtain ⟨hz, hk⟩ := hF
  rw [h0] at hz hk
  exact ⟨by rw [e1]; exact hz, fun q h1 h2 => by rw [e1]; exact hk q h1 h2,
    ⟨Nat.le_trans hS.1 (by rw [e1]; exact hz), fun q h1 h2 => by rw [e1, hk q (Nat.lt_of_lt_of_le h1 hS.1) (fun z => h2 (hA q (Nat.lt_of_lt_of_le h1 hS.1) z))]; exact hS.2.1 q h1 h2, fun q hq => by
      rcases List.mem_append.mp hq with h | h
      · exact hS.2.2 q h
      · exact hf _ (hL q h)⟩⟩
theorem vx_calli {S SX : Type} {post : Int32 → S → Prop} {px : SX → Prop} {B : S → State → Prop} {BX : String → SX → State → Prop} {AX : Nat → Prop} (hr : vx_Run p l e R s m args below meth c H locs cells slots mc ms (F0 m pc ls st0) rest (va_Qi post B A1 a) (vx_X px BX AX) free) (hS : va_S A0 H0 H locs) (hA : ∀ q, q < H.size → A1 q → A0 q) (hf : ∀ q, free q → A0 q) (hAX : ∀ q, q < H.size → AX q → A0 q)
    (kx : ∀ (E : String) (ce : Cell) (q9 : Addr) (u : SX) (t : State) (H1 : Heap) (locs1 : List Loc), t.heap = H1 → s.vm.Alike t.vm → px u → BX E u t → H.size ≤ H1.size → (∀ q : Nat, q < H.size → ¬ AX q → H1[q]? = H[q]?) → va_S A0 H0 H1 locs1 → H1[q9]? = some ce → ce.vm = .none → s.vm.findClass E = some ce.cls → vx_W p l e R s m args below meth c H1 locs1 (cells + mc) (slots + ms) Q (F0 m pc ls rest) q9)
    (kk : ∀ (r : Int32) (u : S) (t : State) (H1 : Heap) (locs1 : List Loc), t.heap = H1 → s.vm.Alike t.vm → post r u → B u t → H.size ≤ H1.size → (∀ q : Nat, q < H.size → ¬ A1 q → H1[q]? = H[q]?) → va_S A0 H0 H1 locs1 → W p l e R s m args below meth c H1 locs1 (cells + mc) (slots + ms) Q (F0 m (pc + 3) ls (.int r :: rest))) : W p l e R s m args below meth c H locs cells slots Q (F0 m pc ls st0) := by
  intro T hT X
  rcases hr T hT X with ⟨v, st₀, t, T', L, h0, X', hL, e1, e2, ⟨⟨r, u, hv, hp, hb⟩, hF⟩, st⟩ | ⟨q, st₀, t, T', L, E, ce, h0, X', hL, e1, e2, ⟨u, hp, hb, hF⟩, hce, hcv, hcl, st⟩
  · cases hv
    obtain ⟨k1, k2, k3⟩ := vx_keep h0 e1 hS hA hf hL hF
    obtain ⟨t2, a1, b1⟩ := kk r u t T'.heap (locs ++ L) e1.symm (by rw [← e2]; exact X'.warmed.alike) hp hb k1 k2 k3 T' rfl X'
    exact ⟨t2, st t2 a1, b1⟩
  · obtain ⟨k1, k2, k3⟩ := vx_keep h0 e1 hS hAX hf hL hF
    obtain ⟨t2, a1, b1⟩ := kx E ce q u t T'.heap (locs ++ L) e1.symm (by rw [← e2]; exact X'.warmed.alike) hp hb k1 k2 k3 (by rw [e1]; exact hce) hcv hcl T' rfl X'
    exact ⟨t2, st.trans a1, b1⟩
theorem vx_calll {S SX : Type} {post : Int64 → S → Prop} {px : SX → Prop} {B : S → State → Prop} {BX : String → SX → State → Prop} {AX : Nat → Prop} (hr : vx_Run p l e R s m args below meth c H locs cells slots mc ms (F0 m pc ls st0) rest (va_Ql post B A1 a) (vx_X px BX AX) free) (hS : va_S A0 H0 H locs) (hA : ∀ q, q < H.size → A1 q → A0 q) (hf : ∀ q, free q → A0 q) (hAX : ∀ q, q < H.size → AX q → A0 q)
    (kx : ∀ (E : String) (ce : Cell) (q9 : Addr) (u : SX) (t : State) (H1 : Heap) (locs1 : List Loc), t.heap = H1 → s.vm.Alike t.vm → px u → BX E u t → H.size ≤ H1.size → (∀ q : Nat, q < H.size → ¬ AX q → H1[q]? = H[q]?) → va_S A0 H0 H1 locs1 → H1[q9]? = some ce → ce.vm = .none → s.vm.findClass E = some ce.cls → vx_W p l e R s m args below meth c H1 locs1 (cells + mc) (slots + ms) Q (F0 m pc ls rest) q9)
    (kk : ∀ (r : Int64) (u : S) (t : State) (H1 : Heap) (locs1 : List Loc), t.heap = H1 → s.vm.Alike t.vm → post r u → B u t → H.size ≤ H1.size → (∀ q : Nat, q < H.size → ¬ A1 q → H1[q]? = H[q]?) → va_S A0 H0 H1 locs1 → W p l e R s m args below meth c H1 locs1 (cells + mc) (slots + ms) Q (F0 m (pc + 3) ls (.long r :: rest))) : W p l e R s m args below meth c H locs cells slots Q (F0 m pc ls st0) := by
  intro T hT X
  rcases hr T hT X with ⟨v, st₀, t, T', L, h0, X', hL, e1, e2, ⟨⟨r, u, hv, hp, hb⟩, hF⟩, st⟩ | ⟨q, st₀, t, T', L, E, ce, h0, X', hL, e1, e2, ⟨u, hp, hb, hF⟩, hce, hcv, hcl, st⟩
  · cases hv
    obtain ⟨k1, k2, k3⟩ := vx_keep h0 e1 hS hA hf hL hF
    obtain ⟨t2, a1, b1⟩ := kk r u t T'.heap (locs ++ L) e1.symm (by rw [← e2]; exact X'.warmed.alike) hp hb k1 k2 k3 T' rfl X'
    exact ⟨t2, st t2 a1, b1⟩
  · obtain ⟨k1, k2, k3⟩ := vx_keep h0 e1 hS hAX hf hL hF
    obtain ⟨t2, a1, b1⟩ := kx E ce q u t T'.heap (locs ++ L) e1.symm (by rw [← e2]; exact X'.warmed.alike) hp hb k1 k2 k3 (by rw [e1]; exact hce) hcv hcl T' rfl X'
    exact ⟨t2, st.trans a1, b1⟩
theorem vx_callf {S SX : Type} {post : UInt32 → S → Prop} {px : SX → Prop} {B : S → State → Prop} {BX : String → SX → State → Prop} {AX : Nat → Prop} (hr : vx_Run p l e R s m args below meth c H locs cells slots mc ms (F0 m pc ls st0) rest (va_Qf post B A1 a) (vx_X px BX AX) free) (hS : va_S A0 H0 H locs) (hA : ∀ q, q < H.size → A1 q → A0 q) (hf : ∀ q, free q → A0 q) (hAX : ∀ q, q < H.size → AX q → A0 q)
    (kx : ∀ (E : String) (ce : Cell) (q9 : Addr) (u : SX) (t : State) (H1 : Heap) (locs1 : List Loc), t.heap = H1 → s.vm.Alike t.vm → px u → BX E u t → H.size ≤ H1.size → (∀ q : Nat, q < H.size → ¬ AX q → H1[q]? = H[q]?) → va_S A0 H0 H1 locs1 → H1[q9]? = some ce → ce.vm = .none → s.vm.findClass E = some ce.cls → vx_W p l e R s m args below meth c H1 locs1 (cells + mc) (slots + ms) Q (F0 m pc ls rest) q9)
    (kk : ∀ (r : UInt32) (u : S) (t : State) (H1 : Heap) (locs1 : List Loc), t.heap = H1 → s.vm.Alike t.vm → post r u → B u t → H.size ≤ H1.size → (∀ q : Nat, q < H.size → ¬ A1 q → H1[q]? = H[q]?) → va_S A0 H0 H1 locs1 → W p l e R s m args below meth c H1 locs1 (cells + mc) (slots + ms) Q (F0 m (pc + 3) ls (.float r :: rest))) : W p l e R s m args below meth c H locs cells slots Q (F0 m pc ls st0) := by
  intro T hT X
  rcases hr T hT X with ⟨v, st₀, t, T', L, h0, X', hL, e1, e2, ⟨⟨r, u, hv, hp, hb⟩, hF⟩, st⟩ | ⟨q, st₀, t, T', L, E, ce, h0, X', hL, e1, e2, ⟨u, hp, hb, hF⟩, hce, hcv, hcl, st⟩
  · cases hv
    obtain ⟨k1, k2, k3⟩ := vx_keep h0 e1 hS hA hf hL hF
    obtain ⟨t2, a1, b1⟩ := kk r u t T'.heap (locs ++ L) e1.symm (by rw [← e2]; exact X'.warmed.alike) hp hb k1 k2 k3 T' rfl X'
    exact ⟨t2, st t2 a1, b1⟩
  · obtain ⟨k1, k2, k3⟩ := vx_keep h0 e1 hS hAX hf hL hF
    obtain ⟨t2, a1, b1⟩ := kx E ce q u t T'.heap (locs ++ L) e1.symm (by rw [← e2]; exact X'.warmed.alike) hp hb k1 k2 k3 (by rw [e1]; exact hce) hcv hcl T' rfl X'
    exact ⟨t2, st.trans a1, b1⟩
theorem vx_calld {S SX : Type} {post : UInt64 → S → Prop} {px : SX → Prop} {B : S → State → Prop} {BX : String → SX → State → Prop} {AX : Nat → Prop} (hr : vx_Run p l e R s m args below meth c H locs cells slots mc ms (F0 m pc ls st0) rest (va_Qd post B A1 a) (vx_X px BX AX) free) (hS : va_S A0 H0 H locs) (hA : ∀ q, q < H.size → A1 q → A0 q) (hf : ∀ q, free q → A0 q) (hAX : ∀ q, q < H.size → AX q → A0 q)
    (kx : ∀ (E : String) (ce : Cell) (q9 : Addr) (u : SX) (t : State) (H1 : Heap) (locs1 : List Loc), t.heap = H1 → s.vm.Alike t.vm → px u → BX E u t → H.size ≤ H1.size → (∀ q : Nat, q < H.size → ¬ AX q → H1[q]? = H[q]?) → va_S A0 H0 H1 locs1 → H1[q9]? = some ce → ce.vm = .none → s.vm.findClass E = some ce.cls → vx_W p l e R s m args below meth c H1 locs1 (cells + mc) (slots + ms) Q (F0 m pc ls rest) q9)
    (kk : ∀ (r : UInt64) (u : S) (t : State) (H1 : Heap) (locs1 : List Loc), t.heap = H1 → s.vm.Alike t.vm → post r u → B u t → H.size ≤ H1.size → (∀ q : Nat, q < H.size → ¬ A1 q → H1[q]? = H[q]?) → va_S A0 H0 H1 locs1 → W p l e R s m args below meth c H1 locs1 (cells + mc) (slots + ms) Q (F0 m (pc + 3) ls (.double r :: rest))) : W p l e R s m args below meth c H locs cells slots Q (F0 m pc ls st0) := by
  intro T hT X
  rcases hr T hT X with ⟨v, st₀, t, T', L, h0, X', hL, e1, e2, ⟨⟨r, u, hv, hp, hb⟩, hF⟩, st⟩ | ⟨q, st₀, t, T', L, E, ce, h0, X', hL, e1, e2, ⟨u, hp, hb, hF⟩, hce, hcv, hcl, st⟩
  · cases hv
    obtain ⟨k1, k2, k3⟩ := vx_keep h0 e1 hS hA hf hL hF
    obtain ⟨t2, a1, b1⟩ := kk r u t T'.heap (locs ++ L) e1.symm (by rw [← e2]; exact X'.warmed.alike) hp hb k1 k2 k3 T' rfl X'
    exact ⟨t2, st t2 a1, b1⟩
  · obtain ⟨k1, k2, k3⟩ := vx_keep h0 e1 hS hAX hf hL hF
    obtain ⟨t2, a1, b1⟩ := kx E ce q u t T'.heap (locs ++ L) e1.symm (by rw [← e2]; exact X'.warmed.alike) hp hb k1 k2 k3 (by rw [e1]; exact hce) hcv hcl T' rfl X'
    exact ⟨t2, st.trans a1, b1⟩
theorem vx_callv {S SX : Type} {post : S → Prop} {px : SX → Prop} {B : S → State → Prop} {BX : String → SX → State → Prop} {AX : Nat → Prop} (hr : vx_Run p l e R s m args below meth c H locs cells slots mc ms (F0 m pc ls st0) rest (va_Qv post B A1 a) (vx_X px BX AX) free) (hS : va_S A0 H0 H locs) (hA : ∀ q, q < H.size → A1 q → A0 q) (hf : ∀ q, free q → A0 q) (hAX : ∀ q, q < H.size → AX q → A0 q)
    (kx : ∀ (E : String) (ce : Cell) (q9 : Addr) (u : SX) (t : State) (H1 : Heap) (locs1 : List Loc), t.heap = H1 → s.vm.Alike t.vm → px u → BX E u t → H.size ≤ H1.size → (∀ q : Nat, q < H.size → ¬ AX q → H1[q]? = H[q]?) → va_S A0 H0 H1 locs1 → H1[q9]? = some ce → ce.vm = .none → s.vm.findClass E = some ce.cls → vx_W p l e R s m args below meth c H1 locs1 (cells + mc) (slots + ms) Q (F0 m pc ls rest) q9)
    (kk : ∀ (u : S) (t : State) (H1 : Heap) (locs1 : List Loc), t.heap = H1 → s.vm.Alike t.vm → post u → B u t → H.size ≤ H1.size → (∀ q : Nat, q < H.size → ¬ A1 q → H1[q]? = H[q]?) → va_S A0 H0 H1 locs1 → W p l e R s m args below meth c H1 locs1 (cells + mc) (slots + ms) Q (F0 m (pc + 3) ls (rest))) : W p l e R s m args below meth c H locs cells slots Q (F0 m pc ls st0) := by
  intro T hT X
  rcases hr T hT X with ⟨v, st₀, t, T', L, h0, X', hL, e1, e2, ⟨⟨u, hv, hp, hb⟩, hF⟩, st⟩ | ⟨q, st₀, t, T', L, E, ce, h0, X', hL, e1, e2, ⟨u, hp, hb, hF⟩, hce, hcv, hcl, st⟩
  · cases hv
    obtain ⟨k1, k2, k3⟩ := vx_keep h0 e1 hS hA hf hL hF
    obtain ⟨t2, a1, b1⟩ := kk u t T'.heap (locs ++ L) e1.symm (by rw [← e2]; exact X'.warmed.alike) hp hb k1 k2 k3 T' rfl X'
    exact ⟨t2, st t2 a1, b1⟩
  · obtain ⟨k1, k2, k3⟩ := vx_keep h0 e1 hS hAX hf hL hF
    obtain ⟨t2, a1, b1⟩ := kx E ce q u t T'.heap (locs ++ L) e1.symm (by rw [← e2]; exact X'.warmed.alike) hp hb k1 k2 k3 (by rw [e1]; exact hce) hcv hcl T' rfl X'
    exact ⟨t2, st.trans a1, b1⟩
/-- caught by the row x of this method's table; the rows ahead don't take it -/
theorem vx_catch {own name : String} {E : String} {ce : Cell} {q : Addr} (hown : s.vm.findClass own = some m.cls) (pre : List ExceptionTableEntry) (x : ExceptionTableEntry) (suf : List ExceptionTableEntry) (hsplit : c.exceptionTable.toList = pre ++ x :: suf)
    (hpass : ∀ z ∈ pre, covers z pc = false ∨ (z.catchType ≠ 0 ∧ ∃ nm : String, (Cond.classLink own z.catchType nm).before args s = true ∧ va_Nc E nm s)) (hx : covers x pc = true) (h0 : x.catchType ≠ 0)
    (hlink : (Cond.classLink own x.catchType name).before args s = true) (hcast : (Cond.castable E name).before args s = true) (hcell : H[q]? = some ce) (hv : ce.vm = .none) (hcl : s.vm.findClass E = some ce.cls)
    (kk : W p l e R s m args below meth c H locs cells slots Q (F0 m x.handlerPc ls [.ref q])) : vx_W p l e R s m args below meth c H locs cells slots Q (F0 m pc ls rest) q := by
  intro T hT X
  have hpl : e.platform.magicAccessors = ({} : Platform).magicAccessors := by rw [X.admits.platform]
  obtain ⟨c3, c4, hc3, hc4, hasg⟩ := Cond.castable_spec hcast
  cases Option.some.inj (hc3.symm.trans hcl)
  obtain ⟨c5, hc5, hcl5⟩ := Cond.classLink_spec hown hlink e.platform hpl
  cases Option.some.inj (hc4.symm.trans hc5)
  obtain ⟨vm', X', st⟩ := X.thenCaughtThrough q (g := F0 m pc ls rest) rfl (Steps.refl _) (by rw [hT]; exact hcell) (by rw [hv]; rfl) (by obtain ⟨k9, h9, -⟩ := Vm.findClass_spec hcl; exact ⟨k9, h9⟩) pre x suf hsplit
    (fun z hz => by
      rcases hpass z hz with h | ⟨hz0, nm, hl1, hn1⟩
      · exact Or.inl h
      · obtain ⟨c6, hc6, hcl6⟩ := Cond.classLink_spec hown hl1 e.platform hpl
        obtain ⟨a8, b8, h1, h2, h3⟩ := hn1
        cases Option.some.inj (h1.symm.trans hcl)
        cases Option.some.inj (h2.symm.trans hc6)
        exact Or.inr ⟨hz0, _, hcl6, h3⟩) hx (Or.inr ⟨h0, c4, hcl5, hasg⟩)
  obtain ⟨t, a1, b1⟩ := kk (T.setVm vm') hT X'
  exact ⟨t, st.trans a1, b1⟩
end Rows
section Ends
variable {p : Program} {l : Launch} {e : Env} {R : Room} {s : State} {m : MethodId} {args : Array Value} {below : List Frame} {meth : Method} {c : Code} {H : Heap} {locs : List Loc} {cells slots : Nat} {Q : State → Prop}
variable {mc ms : Nat} {free : Addr → Prop} {A0 A1 : Nat → Prop} {H0 : Heap} {a : Array Value} {ls : Array Slot} {st0 rest : List Value}
variable {Qc : Array Value → State → Outcome → State → Prop} {XC : String → State → State → Prop}
/-- what a body that may throw owes at its end -/
def vx_MQ (below : List Frame) (Qc : Array Value → State → Outcome → State → Prop) (XC : String → State → State → Prop) (a : Array Value) (s : State) (mc ms : Nat) (free : Addr → Prop) : State → Prop := fun t =>
  ∃ o, t.status = .running ∧ Ended t below o ∧ vx_Q Qc XC mc ms free a s o t
theorem vx_ret {g : JFrame} {mc ms : Nat} (k : W p l e R s m args below meth c H locs cells slots (MQ below Qc args s mc ms free) g) : W p l e R s m args below meth c H locs cells slots (vx_MQ below Qc XC args s mc ms free) g := by
  intro T hT X
  obtain ⟨t, a1, o, b1, b2, b3, b4⟩ := k T hT X
  exact ⟨t, a1, o, b1, b2, Or.inl ⟨b3, b4⟩⟩
/-- not caught here: it goes on to the caller -/
theorem vx_widen {g : JFrame} {q : Addr} {k n : Nat} (h1 : cells ≤ k) (h2 : slots ≤ n) (kk : vx_W p l e R s m args below meth c H locs k n Q g q) : vx_W p l e R s m args below meth c H locs cells slots Q g q := fun T hT X => kk T hT (stand_widen X h1 h2)
theorem vx_out {pc : Nat} {E : String} {ce : Cell} {q : Addr} {mc ms : Nat} (hout : ∀ x ∈ c.exceptionTable.toList, covers x pc = false) (hlocks : meth.locks = false) (hcell : H[q]? = some ce) (hv : ce.vm = .none) (hcl : s.vm.findClass E = some ce.cls)
    (hx : ∀ t : State, t.heap = H → s.vm.Alike t.vm → XC E s t) (hf : ∀ z ∈ locs, free z.base) (hc : cells ≤ mc) (hs : slots ≤ ms) :
    vx_W p l e R s m args below meth c H locs cells slots (vx_MQ below Qc XC args s mc ms free) (F0 m pc ls rest) q := by
  intro T hT X
  obtain ⟨st1, hrun, hend, hW, hsm⟩ := X.leaveThrown q (g := F0 m pc ls rest) rfl rfl rfl hout hlocks
  have hcell9 : (T.setFrames (.throwing q :: below)).heap[q]? = some ce := by
    show T.heap[q]? = some ce
    rw [hT]; exact hcell
  exact ⟨_, st1, .threw q, hrun, hend, Or.inr ⟨q, rfl, E, ce, locs, hx _ hT hW.alike, hcell9, hv, hcl, hW, hsm.mono hc hs, hf⟩⟩
theorem vx_frame {U : State} {k n : Nat} (h : s.sameButNew ({ U with vm := s.vm } : State) locs k n) : s.heap.size ≤ U.heap.size ∧ ∀ q : Nat, q < s.heap.size → (∀ z ∈ locs, z.base ≠ q) → U.heap[q]? = s.heap[q]? := by
  obtain ⟨-, h2, -, -, -, h6⟩ := h
  refine ⟨h2, fun q hq hz => ?_⟩
  obtain ⟨c9, e1, e2, e3, e4⟩ := h6 q _ (Array.getElem?_eq_getElem hq)
  have hs : c9.slots = (s.heap[q]).slots := Array.ext_getElem? fun i => e4 i fun hm => hz _ hm rfl
  have h9 : c9 = s.heap[q] := by
    rw [hs] at e2
    exact e2
  have e5 : U.heap[q]? = some c9 := e1
  rw [e5, h9, Array.getElem?_eq_getElem hq]
/-- the words of a throw but the four that speak of the heap -/
def vx_no (w : Cond) : Bool := decide (w ≠ .isRef (.static Bundle.tN "UNASSIGNED_STACK" Bundle.steD)) && decide (w ≠ .isRef (.static Bundle.tN "SUPPRESSED_SENTINEL" Bundle.listD)) && decide (w ≠ .laysStatic Bundle.tN "UNASSIGNED_STACK" Bundle.steD) && decide (w ≠ .laysStatic Bundle.tN "SUPPRESSED_SENTINEL" Bundle.listD)
def vx_at0 (own : String) (ic : Nat) (X : String) (names : List String) : List Cond := (Bundle.ownAtoms0 own ic X names).filter vx_no
def vx_atS (own : String) (ic : Nat) (X : String) (names : List String) : List Cond := (Bundle.ownAtoms own ic X names).filter vx_no
/-- a word that the tables alone decide, or a good one -/
def vx_ot (w : Cond) : Bool := w.onTables || goodWord w
theorem vx_ot_at {args a' : Array Value} {s U : State} {w : Cond} (hW : s.WarmedH U.vm) (hvm : s.vm = U.vm) (hg : vx_ot w = true) (h : w.before args s = true) : w.before a' U = true := by
  simp only [vx_ot, Bool.or_eq_true] at hg
  rcases hg with hg | hg
  · exact va_tabs hg hvm h
  · exact word_at hW (good_of_word hg) h
/-- a list's words: the good ones out of the method's own list, the others by premises of their own -/
theorem vx_hat {args : Array Value} {s : State} {L B : List Cond} (h1 : ∀ w ∈ L.filter goodWord, w.before args s = true) (h2 : ∀ w ∈ L.filter (fun w => !goodWord w), w ∈ B) (h3 : ∀ w ∈ B, w.before args s = true) : ∀ w ∈ L, w.before args s = true := by
  intro w hw
  by_cases g : goodWord w = true
  · exact h1 w (List.mem_filter.mpr ⟨hw, g⟩)
  · refine h3 w (h2 w (List.mem_filter.mpr ⟨hw, ?_⟩))
    show (!goodWord w) = true
    cases hgw : goodWord w
    · rfl
    · exact absurd hgw g
theorem vx_c {args : Array Value} {s : State} {w : Cond} {B : List Cond} (h : w.before args s = true) (t : ∀ w ∈ B, w.before args s = true) : ∀ w' ∈ w :: B, w'.before args s = true := fun w' h' => (List.mem_cons.mp h').elim (fun e => by rw [e]; exact h) (t w')
theorem vx_n {args : Array Value} {s : State} : ∀ w ∈ ([] : List Cond), w.before args s = true := fun _ h => nomatch h
theorem vx_own {args : Array Value} {s : State} {L : List Cond} (h1 : ∀ w ∈ L.filter vx_no, w.before args s = true)
    (hU : (Cond.isRef (.static Bundle.tN "UNASSIGNED_STACK" Bundle.steD)).before args s = true) (hN : (Cond.isRef (.static Bundle.tN "SUPPRESSED_SENTINEL" Bundle.listD)).before args s = true)
    (lU : (Cond.laysStatic Bundle.tN "UNASSIGNED_STACK" Bundle.steD).before args s = true) (lN : (Cond.laysStatic Bundle.tN "SUPPRESSED_SENTINEL" Bundle.listD).before args s = true) : ∀ w ∈ L, w.before args s = true := by
  intro w hw
  by_cases e1 : w = .isRef (.static Bundle.tN "UNASSIGNED_STACK" Bundle.steD)
  · rw [e1]; exact hU
  · by_cases e2 : w = .isRef (.static Bundle.tN "SUPPRESSED_SENTINEL" Bundle.listD)
    · rw [e2]; exact hN
    · by_cases e3 : w = .laysStatic Bundle.tN "UNASSIGNED_STACK" Bundle.steD
      · rw [e3]; exact lU
      · by_cases e4 : w = .laysStatic Bundle.tN "SUPPRESSED_SENTINEL" Bundle.listD
        · rw [e4]; exact lN
        · exact h1 w (List.mem_filter.mpr ⟨hw, by unfold vx_no; rw [decide_eq_true e1, decide_eq_true e2, decide_eq_true e3, decide_eq_true e4]; rfl⟩)
/-- where a static field lies, its class's statics cell in H -/
def vx_L (C n d : String) (A : Nat → Prop) (U : State) (H : Heap) : Prop := ∃ (c : ClassId) (k : Class) (i : Nat) (f : Field) (a : Nat) (cell : Cell), U.vm.findClass C = some c ∧ U.fieldFound? C n d = some (c, k, i, f) ∧ f.isStatic = true ∧ k.statics = some a ∧ H[a]? = some cell ∧ cell.vm.isStatics = true ∧ cell.cls = c ∧ f.slot < cell.slots.size ∧ k.staticTypes[f.slot]? = some f.type ∧ ¬ A a
theorem vx_L.moved {C n d : String} {A : Nat → Prop} {u U : State} {H : Heap} (hvm : u.vm.Alike U.vm) (h : vx_L C n d A u H) : vx_L C n d A U H := by
  obtain ⟨c, k, i, f, a, cell, h1, h2, h3, h4, h5, h6, h7, h8, h9, h10⟩ := h
  obtain ⟨k', hi', he⟩ := State.fieldFound?_setVm hvm h2
  exact ⟨c, k', i, f, a, cell, by rw [hvm.findClass]; exact h1, hi', h3, by rw [he]; exact h4, h5, h6, h7, h8, by rw [he]; exact h9, h10⟩
theorem vx_L.kept {C n d : String} {A : Nat → Prop} {U : State} {H H1 : Heap} (h : vx_L C n d A U H) (hq : ∀ a : Nat, a < H.size → ¬ A a → H1[a]? = H[a]?) : vx_L C n d A U H1 := by
  obtain ⟨c, k, i, f, a, cell, h1, h2, h3, h4, h5, h6, h7, h8, h9, h10⟩ := h
  exact ⟨c, k, i, f, a, cell, h1, h2, h3, h4, by rw [hq a (Array.getElem?_eq_some_iff.mp h5).1 h10]; exact h5, h6, h7, h8, h9, h10⟩
theorem vx_L.narrow {C n d : String} {A B : Nat → Prop} {U : State} {H : Heap} (h : vx_L C n d A U H) (hAB : ∀ q, B q → A q) : vx_L C n d B U H := by
  obtain ⟨c, k, i, f, a, cell, h1, h2, h3, h4, h5, h6, h7, h8, h9, h10⟩ := h
  exact ⟨c, k, i, f, a, cell, h1, h2, h3, h4, h5, h6, h7, h8, h9, fun z => h10 (hAB _ z)⟩
theorem vx_L.word {C n d : String} {A : Nat → Prop} {s : State} {args : Array Value} (h : vx_L C n d A s s.heap) : (Cond.laysStatic C n d).before args s = true := by
  obtain ⟨c, k, i, f, a, cell, h1, h2, h3, h4, h5, h6, h7, h8, h9, -⟩ := h
  show (Cond.laysStatic C n d).holds args s none s [] = true
  exact Cond.laysStatic_of h1 h2 h3 h4 h5 h6 h7 h8 h9
/-- .. and what it holds: null or some reference -/
def vx_Zq (C n d : String) (A : Nat → Prop) (U : State) (H : Heap) : Prop := va_Zq C n d A U H ∧ vx_L C n d A U H
theorem vx_Zq.moved {C n d : String} {A : Nat → Prop} {u U : State} {H : Heap} (hvm : u.vm.Alike U.vm) (h : vx_Zq C n d A u H) : vx_Zq C n d A U H := ⟨va_Zq.moved hvm h.1, vx_L.moved hvm h.2⟩
theorem vx_Zq.kept {C n d : String} {A : Nat → Prop} {U : State} {H H1 : Heap} (h : vx_Zq C n d A U H) (hq : ∀ a : Nat, a < H.size → ¬ A a → H1[a]? = H[a]?) : vx_Zq C n d A U H1 := ⟨va_Zq.kept h.1 hq, vx_L.kept h.2 hq⟩
theorem vx_Zq.narrow {C n d : String} {A B : Nat → Prop} {U : State} {H : Heap} (h : vx_Zq C n d A U H) (hAB : ∀ q, B q → A q) : vx_Zq C n d B U H := ⟨va_Zq.narrow h.1 hAB, vx_L.narrow h.2 hAB⟩
theorem vx_Zqof {args : Array Value} {s : State} {C n d : String} {A : Nat → Prop} (hl : (Cond.laysStatic C n d).before args s = true) (hini : (Cond.initialized C).before args s = true) (h : (Cond.isRef (.static C n d)).before args s = true) (hA : ∀ a : Nat, a < s.heap.size → ¬ A a) : vx_Zq C n d A s s.heap := by
  refine ⟨va_Zqof hl hini h hA, ?_⟩
  obtain ⟨c, k, i, f, a, cell, h1, h2, h3, h4, h5, h6, h7, h8, h9⟩ := Cond.laysStatic_spec hl
  exact ⟨c, k, i, f, a, cell, h1, h2, h3, h4, h5, h6, h7, h8, h9, hA a (Array.getElem?_eq_some_iff.mp h5).1⟩
theorem vx_isRef {C n d : String} {v : Value} {A : Nat → Prop} {s : State} {args : Array Value} (h : va_Z C n d v A s s.heap) (hv : v.isRef = true) : (Cond.isRef (.static C n d)).before args s = true := by
  obtain ⟨cf, kf, fi, f, a, cell, h1, h2, h3, h4, h5, h6, h7, -⟩ := h
  have he : (Term.static C n d).eval args s none [] s = some v := by
    simp [Term.eval, State.fieldNamed?, h1, h2, h4, h5, h6, h7]
  simp only [Cond.before, Cond.holds, Cond.value, he]
  cases v <;> simp_all [Value.isRef]
theorem vx_isRefq {C n d : String} {A : Nat → Prop} {s : State} {args : Array Value} (h : va_Zq C n d A s s.heap) : (Cond.isRef (.static C n d)).before args s = true := by
  rcases h with h | ⟨t, h⟩
  · exact vx_isRef h rfl
  · exact vx_isRef h rfl
/-- the same frame, seen from here: as if the method were called anew in this heap -/
theorem vx_rebase {T : State} (X : Stand p l e R s m args below meth c T locs cells slots) {R' : Room} (hf : R'.frames ≤ R.frames) (hl : R'.locals ≤ R.locals) (hc : cells + R'.cells ≤ R.cells) (hs : slots + R'.slots ≤ R.slots) :
    Stand p l e R' ((T.setVm s.vm).setFrames (.invoking m args :: below)) m args below meth c T [] 0 0 := by
  have htop : (T.setVm s.vm).topJava?.isSome := X.here.top
  have hF : ((T.setVm s.vm).setFrames (.invoking m args :: below)).frames = .invoking m args :: below := State.frames_setFrames _ (State.cur_lt_of_top htop)
  obtain ⟨g₀, hg0⟩ := Option.isSome_iff_exists.mp htop
  obtain ⟨r, hr⟩ := State.topJava?_eq_some.mp hg0
  have hl9 : e.platform.stackLimits (T.setVm s.vm).me = e.platform.stackLimits s.me := X.limits
  have hb9 : (T.setVm s.vm).me.stackBytes = s.me.stackBytes := X.bytes
  refine ⟨X.admits, X.cas, X.clock, hF, ?_, X.hears, X.method, X.code, X.here, X.tail, X.warmed, ?_, ?_, ?_⟩
  · have h := X.room
    have hU : ((T.setVm s.vm).setFrames (.invoking m args :: below)).localsInUse = s.localsInUse := by
      rw [State.localsInUse_invoking hF (meth := meth) (c := c) X.method X.code, State.localsInUse_invoking X.frames X.method X.code]
    simp only [State.hasRoom, Bool.and_eq_true, decide_eq_true_eq] at h ⊢
    obtain ⟨⟨⟨⟨h1, h2, h3, h4, h5, h6⟩, h7⟩, h8⟩, h9⟩ := h
    rw [X.frames, List.length_cons] at h2 h3
    have q1 := X.heapSize
    have q2 := X.used
    simp only [hF, hU, List.length_cons, State.stackLimits_setFrames, State.stackBytes_setFrames, hl9, hb9]
    refine ⟨⟨⟨⟨by omega, by omega, by omega, by omega, by omega, h6⟩, ?_⟩, ?_⟩, X.book⟩
    · show T.heap.size + R'.cells ≤ e.platform.maxCells
      omega
    · show T.slotsUsed + R'.slots ≤ e.platform.maxSlots
      omega
  · rw [State.stackLimits_setFrames]; rfl
  · rw [State.stackBytes_setFrames]; rfl
  · refine ⟨?_, Nat.le_refl _, Nat.le_refl _, ?_, ?_, fun a c9 h9 => ⟨c9, h9, rfl, rfl, fun _ _ => rfl⟩⟩
    · obtain ⟨t, ht, -⟩ := State.frames_cons hr
      show T.setVm s.vm = { ((T.setVm s.vm).setFrames (.invoking m args :: below)).setFrames (T.setVm s.vm).frames with heap := T.heap, slotsUsed := T.slotsUsed }
      rw [State.setFrames_setFrames, State.setFrames_self ht]
      rfl
    · show T.slotsUsed = T.slotsUsed + ((T.heap.toList.drop T.heap.size).map (·.slots.size)).sum
      rw [List.drop_eq_nil_of_le (Nat.le_of_eq Array.length_toList)]
      rfl
    · show ((T.heap.toList.drop T.heap.size).map (·.slots.size)).sum ≤ 0
      rw [List.drop_eq_nil_of_le (Nat.le_of_eq Array.length_toList)]
      exact Nat.le_refl _
/-- 'throw new E()': new; dup; invokespecial; athrow -/
theorem vx_throw0 {cc : ByteArray} {pc : Nat} (hexec : p.tables.exec = Jvm.exec) (hb : c.code = cc) (hl : l.stackTraces = false) {own cls : String} {names : List String} {ik ic mc ms : Nat} {A : Nat → Prop}
    (hown : s.vm.findClass own = some m.cls) (hcls : Bundle.fit cls = true) (hnames : ∀ n ∈ names, Bundle.fit n = true)
    (hk : (Cond.classLink own ik cls).before args s = true) (hini : (Cond.initialized cls).before args s = true) (hat : ∀ w ∈ vx_at0 own ic cls names, w.before args s = true)
    (hgood : ∀ w ∈ Cond.classLink own ik cls :: Cond.initialized cls :: vx_at0 own ic cls names, vx_ot w = true)
    (hU : vx_Zq Bundle.tN "UNASSIGNED_STACK" Bundle.steD A s s.heap) (hN : vx_Zq Bundle.tN "SUPPRESSED_SENTINEL" Bundle.listD A s s.heap) (hS : va_S A s.heap H locs) (hsize : ls.size = c.maxLocals)
    (d0 : decode cc pc = .ok (.new ik, 3)) (d3 : decode cc (pc + 3) = .ok (.dup, 1)) (d4 : decode cc (pc + 4) = .ok (.invokespecial ic, 3)) (d7 : decode cc (pc + 7) = .ok (.athrow, 1))
    (hout : ∀ x ∈ c.exceptionTable.toList, covers x (pc + 7) = false)
    (hRframes : names.length + 3 < R.frames) (hRlocals : (rest.map fun v => v.category).sum + (13 * (names.length + 1) + 42) ≤ R.locals) (hRcells : cells + 1 ≤ R.cells) (hRslots : slots + 6 ≤ R.slots) (hlocks : meth.locks = false)
    (hx : ∀ t : State, s.vm.Alike t.vm → H.size ≤ t.heap.size → (∀ q : Nat, q < H.size → t.heap[q]? = H[q]?) → XC cls s t)
    (hf : ∀ z ∈ locs, free z.base) (hc : cells + 1 ≤ mc) (hs : slots + 6 ≤ ms) :
    W p l e R s m args below meth c H locs cells slots (vx_MQ below Qc XC args s mc ms free) (F0 m pc ls rest) := by
  intro T hT X
  have htr : e.platform.stackTraces = false := (show e.platform.stackTraces = l.stackTraces by rw [X.admits.platform]).trans hl
  have Y := vx_rebase X (R' := { frames := R.frames, locals := R.locals, cells := 1, slots := 6 }) (Nat.le_refl _) (Nat.le_refl _) hRcells hRslots
  obtain ⟨s', hA⟩ : ∃ z, z = (T.setVm s.vm).setFrames (.invoking m args :: below) := ⟨_, rfl⟩
  rw [← hA] at Y
  have hvm : s'.vm = s.vm := by rw [hA]; rfl
  have hhp : s'.heap = H := by rw [hA]; exact hT
  have hW0 : s.WarmedH s'.vm := by rw [hvm]; exact State.WarmedH.refl s
  have hat' : ∀ w ∈ vx_at0 own ic cls names, w.before args s' = true := fun w hw => vx_ot_at hW0 hvm.symm (hgood w (List.mem_cons_of_mem _ (List.mem_cons_of_mem _ hw))) (hat w hw)
  have hk' : (Cond.classLink own ik cls).before args s' = true := vx_ot_at hW0 hvm.symm (hgood _ List.mem_cons_self) hk
  have hini' : (Cond.initialized cls).before args s' = true := vx_ot_at hW0 hvm.symm (hgood _ (List.mem_cons_of_mem _ List.mem_cons_self)) hini
  have hU' : vx_Zq Bundle.tN "UNASSIGNED_STACK" Bundle.steD A s' s'.heap := by rw [hhp]; exact vx_Zq.moved hW0.alike (hU.kept hS.2.1)
  have hN' : vx_Zq Bundle.tN "SUPPRESSED_SENTINEL" Bundle.listD A s' s'.heap := by rw [hhp]; exact vx_Zq.moved hW0.alike (hN.kept hS.2.1)
  have h : ∀ w ∈ Bundle.ownAtoms0 own ic cls names, w.before args s' = true := vx_own hat' (vx_isRefq hU'.1) (vx_isRefq hN'.1) hU'.2.word hN'.2.word
  have hown' : s'.vm.findClass own = some m.cls := by rw [hvm]; exact hown
  have hins : (Cond.instantiable cls 6).before args s' = true := h _ (by simp [Bundle.ownAtoms0])
  obtain ⟨vm₁, cX, kX, hfX, hkX, -, -, X₁, st1⟩ := Y.newCold hexec (own := own) (C := cls) (index := ik) (n := 6) hown' hk' hins hini'
    (g := F0 m pc ls rest) rfl (by rw [hb]; exact d0) (Nat.le_refl _) (Nat.le_refl _)
  generalize hT1 : (T.setVm vm₁).pushCell { cls := cX, slots := kX.instanceTypes.map defaultValue, vm := .none } = T1 at X₁ st1
  have hcat : (Value.ref T.heap.size).category = 1 := rfl
  have hcellA : T1.heap[T.heap.size]? = some (freshCell cX kX) := by rw [← hT1]; exact State.heap_pushCell_size _ _
  have d3' : decode c.code (pc + 3) = .ok (.dup, 1) := by rw [hb]; exact d3
  obtain ⟨U, hsteps, hrun, hend, hW, hsame, ce, hce, hO⟩ := X₁.ctorThrow0 hexec htr (own := own) (cls := cls) (names := names) (ic := ic) hown' hcls hnames h (fun x hx => nomatch hx) hfX hkX hcellA (by rw [hhp, hT]; exact Nat.le_refl _)
    (g := { method := m, pc := pc + 4, locals := ls, stack := .ref T.heap.size :: .ref T.heap.size :: rest, locked := none }) rfl hsize rfl rfl (rest := rest) rfl
    (by rw [hb]; exact d4) (by rw [hb]; exact d7) hout hRframes (by simp only [List.map_cons, List.sum_cons, hcat]; omega) hlocks
  obtain ⟨f1, f2⟩ := vx_frame hsame
  rw [hhp] at f1 f2
  have hWs : s.WarmedH U.vm := State.WarmedH.trans hW0 hW
  have hcl : s.vm.findClass cls = some ce.cls := by
    have h9 := hO.cls
    rw [hvm] at h9
    exact h9
  have hall : s.sameButNew ({ U with vm := s.vm } : State) locs mc ms := by
    subst hA
    obtain ⟨e1, e2⟩ := hsame
    rw [State.setFrames_setFrames] at e1
    have h2 : (T.setVm s.vm).sameButNew ({ U with vm := s.vm } : State) [] (0 + 1) (0 + 6) := ⟨e1, e2⟩
    have h3 := X.same.trans h2
    rw [List.append_nil] at h3
    exact h3.mono hc hs
  refine ⟨U, ?_, .threw T.heap.size, hrun, hend, Or.inr ⟨T.heap.size, rfl, cls, ce, locs, hx U hWs.alike f1 (fun q hq => f2 q hq (fun z hz => nomatch hz)), hce, hO.vm, hcl, hWs, hall, hf⟩⟩
  refine st1 _ ?_
  show Steps p.tables e below (T1.setTop { method := m, pc := pc + 3, locals := ls, stack := .ref T.heap.size :: rest, locked := none }) _
  jvm_step X₁.here [X₁.here.top, hexec, d3', Value.category]
  exact hsteps
/-- 'throw new E("text")': new; dup; ldc; invokespecial; athrow -/
theorem vx_throwS {cc : ByteArray} {pc : Nat} (hexec : p.tables.exec = Jvm.exec) (hb : c.code = cc) (hl : l.stackTraces = false) {own cls text : String} {names : List String} {ik is ic mc ms sa : Nat} {A : Nat → Prop}
    (hown : s.vm.findClass own = some m.cls) (hcls : Bundle.fit cls = true) (hnames : ∀ n ∈ names, Bundle.fit n = true)
    (hk : (Cond.classLink own ik cls).before args s = true) (hini : (Cond.initialized cls).before args s = true) (hstr : vk_R own is text sa s) (hat : ∀ w ∈ vx_atS own ic cls names, w.before args s = true)
    (hgood : ∀ w ∈ Cond.classLink own ik cls :: Cond.initialized cls :: vx_atS own ic cls names, vx_ot w = true)
    (hU : vx_Zq Bundle.tN "UNASSIGNED_STACK" Bundle.steD A s s.heap) (hN : vx_Zq Bundle.tN "SUPPRESSED_SENTINEL" Bundle.listD A s s.heap) (hS : va_S A s.heap H locs) (hsize : ls.size = c.maxLocals)
    (d0 : decode cc pc = .ok (.new ik, 3)) (d3 : decode cc (pc + 3) = .ok (.dup, 1)) (d4 : decode cc (pc + 4) = .ok (.ldc is, 2)) (d6 : decode cc (pc + 6) = .ok (.invokespecial ic, 3)) (d9 : decode cc (pc + 9) = .ok (.athrow, 1))
    (hout : ∀ x ∈ c.exceptionTable.toList, covers x (pc + 9) = false)
    (hRframes : names.length + 3 < R.frames) (hRlocals : (rest.map fun v => v.category).sum + (13 * (names.length + 1) + 43) ≤ R.locals) (hRcells : cells + 1 ≤ R.cells) (hRslots : slots + 6 ≤ R.slots) (hlocks : meth.locks = false)
    (hx : ∀ t : State, s.vm.Alike t.vm → H.size ≤ t.heap.size → (∀ q : Nat, q < H.size → t.heap[q]? = H[q]?) → XC cls s t)
    (hf : ∀ z ∈ locs, free z.base) (hc : cells + 1 ≤ mc) (hs : slots + 6 ≤ ms) :
    W p l e R s m args below meth c H locs cells slots (vx_MQ below Qc XC args s mc ms free) (F0 m pc ls rest) := by
  intro T hT X
  have htr : e.platform.stackTraces = false := (show e.platform.stackTraces = l.stackTraces by rw [X.admits.platform]).trans hl
  have Y := vx_rebase X (R' := { frames := R.frames, locals := R.locals, cells := 1, slots := 6 }) (Nat.le_refl _) (Nat.le_refl _) hRcells hRslots
  obtain ⟨s', hA⟩ : ∃ z, z = (T.setVm s.vm).setFrames (.invoking m args :: below) := ⟨_, rfl⟩
  rw [← hA] at Y
  have hvm : s'.vm = s.vm := by rw [hA]; rfl
  have hhp : s'.heap = H := by rw [hA]; exact hT
  have hW0 : s.WarmedH s'.vm := by rw [hvm]; exact State.WarmedH.refl s
  have hat' : ∀ w ∈ vx_atS own ic cls names, w.before args s' = true := fun w hw => vx_ot_at hW0 hvm.symm (hgood w (List.mem_cons_of_mem _ (List.mem_cons_of_mem _ hw))) (hat w hw)
  have hk' : (Cond.classLink own ik cls).before args s' = true := vx_ot_at hW0 hvm.symm (hgood _ List.mem_cons_self) hk
  have hini' : (Cond.initialized cls).before args s' = true := vx_ot_at hW0 hvm.symm (hgood _ (List.mem_cons_of_mem _ List.mem_cons_self)) hini
  have hU' : vx_Zq Bundle.tN "UNASSIGNED_STACK" Bundle.steD A s' s'.heap := by rw [hhp]; exact vx_Zq.moved hW0.alike (hU.kept hS.2.1)
  have hN' : vx_Zq Bundle.tN "SUPPRESSED_SENTINEL" Bundle.listD A s' s'.heap := by rw [hhp]; exact vx_Zq.moved hW0.alike (hN.kept hS.2.1)
  have h : ∀ w ∈ Bundle.ownAtoms own ic cls names, w.before args s' = true := vx_own hat' (vx_isRefq hU'.1) (vx_isRefq hN'.1) hU'.2.word hN'.2.word
  have hown' : s'.vm.findClass own = some m.cls := by rw [hvm]; exact hown
  have hins : (Cond.instantiable cls 6).before args s' = true := h _ (by simp [Bundle.ownAtoms])
  obtain ⟨vm₁, cX, kX, hfX, hkX, -, -, X₁, st1⟩ := Y.newCold hexec (own := own) (C := cls) (index := ik) (n := 6) hown' hk' hins hini'
    (g := F0 m pc ls rest) rfl (by rw [hb]; exact d0) (Nat.le_refl _) (Nat.le_refl _)
  generalize hT1 : (T.setVm vm₁).pushCell { cls := cX, slots := kX.instanceTypes.map defaultValue, vm := .none } = T1 at X₁ st1
  have hcat : (Value.ref T.heap.size).category = 1 := rfl
  have hcellA : T1.heap[T.heap.size]? = some (freshCell cX kX) := by rw [← hT1]; exact State.heap_pushCell_size _ _
  have d3' : decode c.code (pc + 3) = .ok (.dup, 1) := by rw [hb]; exact d3
  have d4' : decode c.code (pc + 4) = .ok (.ldc is, 2) := by rw [hb]; exact d4
  have hstr' : vk_R own is text sa s' := vk_R.warm hW0 hstr
  obtain ⟨U, hsteps, hrun, hend, hW, hsame, ce, hce, hO⟩ := X₁.ctorThrowS hexec htr (own := own) (cls := cls) (names := names) (ic := ic) hown' hcls hnames h (fun x hx => nomatch hx) hfX hkX hcellA (by rw [hhp, hT]; exact Nat.le_refl _) (msg := .ref sa) rfl
    (g := { method := m, pc := pc + 6, locals := ls, stack := .ref sa :: .ref T.heap.size :: .ref T.heap.size :: rest, locked := none }) rfl hsize rfl rfl (rest := rest) rfl
    (by rw [hb]; exact d6) (by rw [hb]; exact d9) hout hRframes (by simp only [List.map_cons, List.sum_cons, hcat]; omega) hlocks
  obtain ⟨f1, f2⟩ := vx_frame hsame
  rw [hhp] at f1 f2
  have hWs : s.WarmedH U.vm := State.WarmedH.trans hW0 hW
  have hcl : s.vm.findClass cls = some ce.cls := by
    have h9 := hO.cls
    rw [hvm] at h9
    exact h9
  have hall : s.sameButNew ({ U with vm := s.vm } : State) locs mc ms := by
    subst hA
    obtain ⟨e1, e2⟩ := hsame
    rw [State.setFrames_setFrames] at e1
    have h2 : (T.setVm s.vm).sameButNew ({ U with vm := s.vm } : State) [] (0 + 1) (0 + 6) := ⟨e1, e2⟩
    have h3 := X.same.trans h2
    rw [List.append_nil] at h3
    exact h3.mono hc hs
  refine ⟨U, ?_, .threw T.heap.size, hrun, hend, Or.inr ⟨T.heap.size, rfl, cls, ce, locs, hx U hWs.alike f1 (fun q hq => f2 q hq (fun z hz => nomatch hz)), hce, hO.vm, hcl, hWs, hall, hf⟩⟩
  refine st1 _ ?_
  show Steps p.tables e below (T1.setTop { method := m, pc := pc + 3, locals := ls, stack := .ref T.heap.size :: rest, locked := none }) _
  jvm_step X₁.here [X₁.here.top, hexec, d3', Value.category]
  exact X₁.ldcString hexec (own := own) (text := text) (index := is) (a := sa) hown' hstr'.1 hstr'.2
    (g := { method := m, pc := pc + 4, locals := ls, stack := .ref T.heap.size :: .ref T.heap.size :: rest, locked := none }) rfl d4' _ hsteps
/-- 'throw new E("text")', the text by a wide index -/
theorem vx_throwSW {cc : ByteArray} {pc : Nat} (hexec : p.tables.exec = Jvm.exec) (hb : c.code = cc) (hl : l.stackTraces = false) {own cls text : String} {names : List String} {ik is ic mc ms sa : Nat} {A : Nat → Prop}
    (hown : s.vm.findClass own = some m.cls) (hcls : Bundle.fit cls = true) (hnames : ∀ n ∈ names, Bundle.fit n = true)
    (hk : (Cond.classLink own ik cls).before args s = true) (hini : (Cond.initialized cls).before args s = true) (hstr : vk_R own is text sa s) (hat : ∀ w ∈ vx_atS own ic cls names, w.before args s = true)
    (hgood : ∀ w ∈ Cond.classLink own ik cls :: Cond.initialized cls :: vx_atS own ic cls names, vx_ot w = true)
    (hU : vx_Zq Bundle.tN "UNASSIGNED_STACK" Bundle.steD A s s.heap) (hN : vx_Zq Bundle.tN "SUPPRESSED_SENTINEL" Bundle.listD A s s.heap) (hS : va_S A s.heap H locs) (hsize : ls.size = c.maxLocals)
    (d0 : decode cc pc = .ok (.new ik, 3)) (d3 : decode cc (pc + 3) = .ok (.dup, 1)) (d4 : decode cc (pc + 4) = .ok (.ldc_w is, 3)) (d7 : decode cc (pc + 7) = .ok (.invokespecial ic, 3)) (d10 : decode cc (pc + 10) = .ok (.athrow, 1))
    (hout : ∀ x ∈ c.exceptionTable.toList, covers x (pc + 10) = false)
    (hRframes : names.length + 3 < R.frames) (hRlocals : (rest.map fun v => v.category).sum + (13 * (names.length + 1) + 43) ≤ R.locals) (hRcells : cells + 1 ≤ R.cells) (hRslots : slots + 6 ≤ R.slots) (hlocks : meth.locks = false)
    (hx : ∀ t : State, s.vm.Alike t.vm → H.size ≤ t.heap.size → (∀ q : Nat, q < H.size → t.heap[q]? = H[q]?) → XC cls s t)
    (hf : ∀ z ∈ locs, free z.base) (hc : cells + 1 ≤ mc) (hs : slots + 6 ≤ ms) :
    W p l e R s m args below meth c H locs cells slots (vx_MQ below Qc XC args s mc ms free) (F0 m pc ls rest) := by
  intro T hT X
  have htr : e.platform.stackTraces = false := (show e.platform.stackTraces = l.stackTraces by rw [X.admits.platform]).trans hl
  have Y := vx_rebase X (R' := { frames := R.frames, locals := R.locals, cells := 1, slots := 6 }) (Nat.le_refl _) (Nat.le_refl _) hRcells hRslots
  obtain ⟨s', hA⟩ : ∃ z, z = (T.setVm s.vm).setFrames (.invoking m args :: below) := ⟨_, rfl⟩
  rw [← hA] at Y
  have hvm : s'.vm = s.vm := by rw [hA]; rfl
  have hhp : s'.heap = H := by rw [hA]; exact hT
  have hW0 : s.WarmedH s'.vm := by rw [hvm]; exact State.WarmedH.refl s
  have hat' : ∀ w ∈ vx_atS own ic cls names, w.before args s' = true := fun w hw => vx_ot_at hW0 hvm.symm (hgood w (List.mem_cons_of_mem _ (List.mem_cons_of_mem _ hw))) (hat w hw)
  have hk' : (Cond.classLink own ik cls).before args s' = true := vx_ot_at hW0 hvm.symm (hgood _ List.mem_cons_self) hk
  have hini' : (Cond.initialized cls).before args s' = true := vx_ot_at hW0 hvm.symm (hgood _ (List.mem_cons_of_mem _ List.mem_cons_self)) hini
  have hU' : vx_Zq Bundle.tN "UNASSIGNED_STACK" Bundle.steD A s' s'.heap := by rw [hhp]; exact vx_Zq.moved hW0.alike (hU.kept hS.2.1)
  have hN' : vx_Zq Bundle.tN "SUPPRESSED_SENTINEL" Bundle.listD A s' s'.heap := by rw [hhp]; exact vx_Zq.moved hW0.alike (hN.kept hS.2.1)
  have h : ∀ w ∈ Bundle.ownAtoms own ic cls names, w.before args s' = true := vx_own hat' (vx_isRefq hU'.1) (vx_isRefq hN'.1) hU'.2.word hN'.2.word
  have hown' : s'.vm.findClass own = some m.cls := by rw [hvm]; exact hown
  have hins : (Cond.instantiable cls 6).before args s' = true := h _ (by simp [Bundle.ownAtoms])
  obtain ⟨vm₁, cX, kX, hfX, hkX, -, -, X₁, st1⟩ := Y.newCold hexec (own := own) (C := cls) (index := ik) (n := 6) hown' hk' hins hini'
    (g := F0 m pc ls rest) rfl (by rw [hb]; exact d0) (Nat.le_refl _) (Nat.le_refl _)
  generalize hT1 : (T.setVm vm₁).pushCell { cls := cX, slots := kX.instanceTypes.map defaultValue, vm := .none } = T1 at X₁ st1
  have hcat : (Value.ref T.heap.size).category = 1 := rfl
  have hcellA : T1.heap[T.heap.size]? = some (freshCell cX kX) := by rw [← hT1]; exact State.heap_pushCell_size _ _
  have d3' : decode c.code (pc + 3) = .ok (.dup, 1) := by rw [hb]; exact d3
  have d4' : decode c.code (pc + 4) = .ok (.ldc_w is, 3) := by rw [hb]; exact d4
  have hstr' : vk_R own is text sa s' := vk_R.warm hW0 hstr
  obtain ⟨U, hsteps, hrun, hend, hW, hsame, ce, hce, hO⟩ := X₁.ctorThrowS hexec htr (own := own) (cls := cls) (names := names) (ic := ic) hown' hcls hnames h (fun x hx => nomatch hx) hfX hkX hcellA (by rw [hhp, hT]; exact Nat.le_refl _) (msg := .ref sa) rfl
    (g := { method := m, pc := pc + 7, locals := ls, stack := .ref sa :: .ref T.heap.size :: .ref T.heap.size :: rest, locked := none }) rfl hsize rfl rfl (rest := rest) rfl
    (by rw [hb]; exact d7) (by rw [hb]; exact d10) hout hRframes (by simp only [List.map_cons, List.sum_cons, hcat]; omega) hlocks
  obtain ⟨f1, f2⟩ := vx_frame hsame
  rw [hhp] at f1 f2
  have hWs : s.WarmedH U.vm := State.WarmedH.trans hW0 hW
  have hcl : s.vm.findClass cls = some ce.cls := by
    have h9 := hO.cls
    rw [hvm] at h9
    exact h9
  have hall : s.sameButNew ({ U with vm := s.vm } : State) locs mc ms := by
    subst hA
    obtain ⟨e1, e2⟩ := hsame
    rw [State.setFrames_setFrames] at e1
    have h2 : (T.setVm s.vm).sameButNew ({ U with vm := s.vm } : State) [] (0 + 1) (0 + 6) := ⟨e1, e2⟩
    have h3 := X.same.trans h2
    rw [List.append_nil] at h3
    exact h3.mono hc hs
  refine ⟨U, ?_, .threw T.heap.size, hrun, hend, Or.inr ⟨T.heap.size, rfl, cls, ce, locs, hx U hWs.alike f1 (fun q hq => f2 q hq (fun z hz => nomatch hz)), hce, hO.vm, hcl, hWs, hall, hf⟩⟩
  refine st1 _ ?_
  show Steps p.tables e below (T1.setTop { method := m, pc := pc + 3, locals := ls, stack := .ref T.heap.size :: rest, locked := none }) _
  jvm_step X₁.here [X₁.here.top, hexec, d3', Value.category]
  exact X₁.ldcStringW hexec (own := own) (text := text) (index := is) (a := sa) hown' hstr'.1 hstr'.2
    (g := { method := m, pc := pc + 4, locals := ls, stack := .ref T.heap.size :: .ref T.heap.size :: rest, locked := none }) rfl d4' _ hsteps
end Ends
section Bodies
variable {l : Launch}
theorem vx_ofW {y : MethodName} {ws ws' : List Cond} {rm : Room} {Pc : Array Value → State → Prop} {Qc : Array Value → State → Outcome → State → Prop} {XC : String → State → State → Prop} {mc ms : Nat} {free : Addr → Prop} {cc : ByteArray} {maxL : Nat} {ret : Option FieldType}
    (hy : plainName y.cls = true) (hw : ws = Cond.code y cc maxL ret :: ws')
    (body : ∀ p e s m args below meth c s₁, BodyLoose p l y (headSpec ws rm) cc maxL ret e s m args below meth c s₁ → c.maxLocals = maxL → (∀ x ∈ c.exceptionTable.toList, False) → Pc args s →
      W p l e (headSpec ws rm).room s m args below meth c s.heap [] 0 0 (vx_MQ below Qc XC args s mc ms free) (entryFrame m args maxL)) : vx_Met l y ws rm Pc Qc XC mc ms free := by
  refine MetFree.of_bodyS (code := cc) (maxLocals := maxL) (ret := ret) hy ?_ ?_
  · intro args s m h hn
    obtain ⟨meth, c, h1, h2, h3, h4, h5, h6, -, -⟩ := Cond.code_spec hn (atoms_spec (ws := ws) h _ (by rw [hw]; exact List.mem_cons_self))
    exact ⟨meth, c, h1, h2, h3, h4, h5, h6⟩
  · intro p e s m args below meth c s₁ B hml hP _
    have hh0 : s₁.heap = s.heap := by rw [B.state]; rfl
    have ht : ∀ x ∈ c.exceptionTable.toList, False := by
      obtain ⟨meth9, c9, h1, h2, -, -, -, -, h7, -⟩ := Cond.code_spec B.named (atoms_spec (ws := ws) B.pre _ (by rw [hw]; exact List.mem_cons_self))
      cases Option.some.inj (h1.symm.trans B.method)
      cases Option.some.inj (h2.symm.trans (Stand.of_body B).code)
      intro x hx
      rw [Array.isEmpty_iff.mp h7] at hx
      cases hx
    obtain ⟨t, a1, o, b1, b2, b3⟩ := body p e s m args below meth c s₁ B hml ht hP s₁ hh0 (Stand.of_body B)
    exact ⟨t, o, a1, b1, b2, b3⟩
/-- the table of a body with handlers -/
theorem vx_table {p : Program} {x y : MethodName} {S : Spec} {cc bytes : ByteArray} {maxL maxL' : Nat} {ret ret' : Option FieldType} {e : Env} {s s₁ : State} {m : MethodId} {args : Array Value} {below : List Frame} {meth : Method} {c : Code} {hh : List (Nat × Nat × Nat × Nat)}
    (B : BodyLoose p l y S cc maxL ret e s m args below meth c s₁) (h : (Cond.codeWith y bytes maxL' ret' hh).before args s = true) : c.exceptionTable.toList = tableOf hh := by
  obtain ⟨m9, meth9, c9, hn9, h1, h2, -, -, h6, -⟩ := Cond.codeWith_spec h
  cases Option.some.inj (hn9.symm.trans B.named)
  cases Option.some.inj (h1.symm.trans B.method)
  cases Option.some.inj (h2.symm.trans (Stand.of_body B).code)
  rw [← h6, table_eq]
end Bodies
end VXA
/-! ===== END ===== -/
/-! ===== BEGIN a static call of a method with an exception table ===== -/
section VXS
variable {p : Program} {l : Launch} {e : Env} {R : Room} {s : State} {m : MethodId} {args : Array Value} {below : List Frame} {meth : Method} {c : Code} {T : State} {H : Heap} {locs : List Loc} {cells slots : Nat}
abbrev vx_CSW (R : Room) (s : State) (args : Array Value) (own : String) (index : Nat) (y : MethodName) (bytes : ByteArray) (maxL : Nat) (ret : Option FieldType) (hh : List (Nat × Nat × Nat × Nat)) (ws : List Cond) (rm : Room) (mc ms n : Nat) : Prop :=
  (rm.cells = mc ∧ rm.slots = ms ∧ rm.frames + 1 ≤ R.frames ∧ 8 + (maxL + 11) + rm.locals ≤ R.locals ∧ (∀ w ∈ ws, ∀ (a' : Array Value) (U : State), s.WarmedH U.vm → w.before a' U = true) ∧ Cond.codeWith y bytes maxL ret hh ∈ ws) ∧
  (Cond.codeWith y bytes maxL ret hh).before args s = true ∧ (Cond.initialized y.cls).before args s = true ∧ (y.cls ≠ "java/lang/invoke/MethodHandle" ∧ y.cls ≠ "java/lang/invoke/VarHandle") ∧
  (∀ sig, parseMethodDescriptor y.desc = some sig → n = sig.parameters.length) ∧ (Cond.methodLink own index y).before args s = true ∧ (Cond.static y).before args s = true
theorem vx_cwSW {own : String} {index maxL mc ms : Nat} {y : MethodName} {bytes : ByteArray} {ret : Option FieldType} {hh : List (Nat × Nat × Nat × Nat)} {Ts ws ws' : List Cond} {rm : Room} (n : Nat) (ht : ∀ w ∈ Ts, w.before args s = true) (hT : GoodIn Ts (va_wsS own index y ws)) (hw : ws = Cond.codeWith y bytes maxL ret hh :: ws') (hrc : rm.cells = mc) (hrs : rm.slots = ms)
    (hd : y.cls ≠ "java/lang/invoke/MethodHandle" ∧ y.cls ≠ "java/lang/invoke/VarHandle" ∧ (parseMethodDescriptor y.desc).map (fun d => d.parameters.length) = some n) (hR : rm.frames + 1 ≤ R.frames ∧ 8 + (maxL + 11) + rm.locals ≤ R.locals) :
    vx_CSW R s args own index y bytes maxL ret hh ws rm mc ms n := by
  have ok : ∀ w ∈ va_wsS own index y ws, w.before args s = true := fun w h => ht w (hT w h).1
  have hG : GoodIn Ts ws := fun w h => hT w (by unfold va_wsS; exact List.mem_append_right _ h)
  have hc : Cond.codeWith y bytes maxL ret hh ∈ ws := by rw [hw]; exact List.mem_cons_self
  refine ⟨⟨hrc, hrs, hR.1, hR.2, pay_in ht hG, hc⟩, ht _ (hG _ hc).1, ok _ (by simp [va_wsS]), ⟨hd.1, hd.2.1⟩, fun sig h => ?_, ok _ (by simp [va_wsS]), ok _ (by simp [va_wsS])⟩
  have h2 := hd.2.2
  rw [h] at h2
  exact (Option.some.inj h2).symm
theorem vx_callSW (X : Stand p l e R s m args below meth c T locs cells slots) (hexec : p.tables.exec = Jvm.exec) {own : String} {index : Nat} {y : MethodName} {bytes : ByteArray} {maxL : Nat} {ret : Option FieldType} {hh : List (Nat × Nat × Nat × Nat)}
    (hown : s.vm.findClass own = some m.cls) (hlink : (Cond.methodLink own index y).before args s = true) (hstat : (Cond.static y).before args s = true) (hinit : (Cond.initialized y.cls).before args s = true)
    (hcode : (Cond.codeWith y bytes maxL ret hh).before args s = true) (hy : y.cls ≠ "java/lang/invoke/MethodHandle" ∧ y.cls ≠ "java/lang/invoke/VarHandle")
    {W9 : Nat} {Pre : Pt → Array Value → Prop} {Post : Pt → Array Value → Option Value → Pt → Prop} (hK : Back l R p e below s args y 3 W9 Pre Post)
    {g : JFrame} (hg : g.method = m) (hsize : g.locals.size = c.maxLocals) {argsL rest : List Value} (hlen : ∀ sig, parseMethodDescriptor y.desc = some sig → argsL.length = sig.parameters.length)
    (hstack : g.stack = argsL.reverse ++ rest) (hW : 2 * g.monitorRoom + (rest.map fun v => v.category).sum ≤ W9) (hdg : decode c.code g.pc = .ok (.invokestatic index, 3))
    (hpre : ∀ vm₁, s.WarmedH vm₁ → Pre ⟨T.setVm vm₁, locs, cells, slots⟩ argsL.toArray) :
    ∃ (v : Option Value) (vm₁ : Vm) (B : Pt), s.WarmedH vm₁ ∧ Stand p l e R s m args below meth c B.U B.locs B.cells B.slots ∧ Post ⟨T.setVm vm₁, locs, cells, slots⟩ argsL.toArray v B ∧
      ∀ target, Steps p.tables e below (B.U.setTop { g with pc := g.pc + 3, stack := v.toList ++ rest }) target → Steps p.tables e below (T.setTop g) target := by
  obtain ⟨mk, methM, cM, hnamed, hmethM, -, -, -, -, -, -, hsigM⟩ := Cond.codeWith_spec hcode
  have hstatic : methM.isStatic = true := Cond.static_spec hnamed hmethM hstat
  obtain ⟨kP, hkP, -⟩ := className_of_methodNamed hnamed
  have hinitP : kP.init = .initialized := Cond.initialized_spec (findClass_of_methodNamed hnamed) hkP hinit
  obtain ⟨vm₁, X₁, hstep₁⟩ := X.invokestatic hexec hown hlink hnamed hmethM hstatic hkP hinitP hy (g := g) hg (argsL := argsL) (rest := rest) (hlen _ hsigM) hstack hdg
  obtain ⟨v, B, X', hpost, hsteps⟩ := hK m meth c ⟨T.setVm vm₁, locs, cells, slots⟩ { g with stack := rest } (.invokestatic index) mk argsL.toArray X₁ hg hsize hdg hW (X₁.named hnamed) (hpre vm₁ X₁.warmed)
  exact ⟨v, vm₁, B, X₁.warmed, X', hpost, fun target h => hstep₁ _ fun acts => by rw [doInvoke_state]; exact hsteps.trans h⟩
theorem vx_runSW {y : MethodName} {bytes cc : ByteArray} {maxL nL mc ms n index : Nat} {ret : Option FieldType} {hh : List (Nat × Nat × Nat × Nat)} {ws : List Cond} {rm : Room} {Pc : Array Value → State → Prop} {Qc : Array Value → State → Outcome → State → Prop} {free : Addr → Prop} {Ts : List Cond} {own : String} {As rest : List Value} {g : JFrame}
    (S : CallFix p m c cc nL s args Ts own) (hM : Met l y ws rm Pc Qc mc ms free) (cw : vx_CSW R s args own index y bytes maxL ret hh ws rm mc ms n) (hp : PreS s H Pc As)
    (hg : g.method = m) (hn : As.length = n) (hsize : g.locals.size = nL) (hstack : g.stack = As.reverse ++ rest) (hW : 2 * g.monitorRoom + (rest.map fun v => v.category).sum ≤ 8) (hdg : decode cc g.pc = .ok (.invokestatic index, 3)) (hf : cells + mc ≤ R.cells ∧ slots + ms ≤ R.slots) :
    va_Run p l e R s m args below meth c H locs cells slots mc ms g rest (Qc As.toArray) (free) := by
  obtain ⟨⟨hrc, hrs, hfr, hlo, hws, hcw⟩, hcode, hini, hy, hlen, hl, hstt⟩ := cw
  have hK : Back l R p e below s args y 3 8 (PreOf R mc ms Pc) (PostOf Qc mc ms free) := va_backW (hh := hh) (bytes := bytes) (maxL := maxL) (ret := ret) hM hp.1 hrc hrs hfr hlo hws hcw (fun a' U hW => word_at hW (Or.inl (by first | rfl | simp [Cond.onTables, Cond.keeps, Cond.steady])) hini)
  obtain ⟨hx, hb, hml, ho, -⟩ := S
  intro T hT X
  obtain ⟨v, vm₁, ⟨U', l2, c2, s2⟩, hW₁, X', ⟨g', mk, t, L, e1, e2, hq, h1, hL, h2, h3⟩, st⟩ := vx_callSW X hx (hh := hh) (bytes := bytes) (maxL := maxL) (ret := ret) ho hl hstt hini hcode hy hK hg (hsize.trans hml.symm) (argsL := As) (rest := rest) (fun sig h => hn.trans (hlen sig h)) hstack hW (by rw [hb]; exact hdg)
    (fun vm₁ hW₁ => ⟨hf.1, hf.2, hp.2 (T.setVm vm₁) hT hW₁⟩)
  dsimp only [Pt.U, Pt.locs, Pt.cells, Pt.slots] at X' e1 e2 h1 h2 h3 st
  subst h1; subst h2; subst h3
  exact ⟨v, (T.setVm vm₁).calling g' mk As.toArray, t, U', L, hT, X', hL, e1, e2, hq, st⟩
/-- not caught here, past rows that name other classes: it goes on to the caller -/
theorem vx_outP {p : Program} {l : Launch} {e : Env} {R : Room} {s : State} {m : MethodId} {args : Array Value} {below : List Frame} {meth : Method} {c : Code} {H : Heap} {locs : List Loc} {cells slots : Nat} {free : Addr → Prop} {ls : Array Slot} {rest : List Value} {Qc : Array Value → State → Outcome → State → Prop} {XC : String → State → State → Prop}
    {pc : Nat} {own E : String} {ce : Cell} {q : Addr} {mc ms : Nat} (hown : s.vm.findClass own = some m.cls) (hlocks : meth.locks = false)
    (hpass : ∀ z ∈ c.exceptionTable.toList, covers z pc = false ∨ (z.catchType ≠ 0 ∧ ∃ nm : String, (Cond.classLink own z.catchType nm).before args s = true ∧ va_Nc E nm s)) (hcell : H[q]? = some ce) (hv : ce.vm = .none) (hcl : s.vm.findClass E = some ce.cls)
    (hx : ∀ t : State, t.heap = H → s.vm.Alike t.vm → XC E s t) (hf : ∀ z ∈ locs, free z.base) (hc : cells ≤ mc) (hs : slots ≤ ms) :
    vx_W p l e R s m args below meth c H locs cells slots (vx_MQ below Qc XC args s mc ms free) (F0 m pc ls rest) q := by
  intro T hT X
  have hpl : e.platform.magicAccessors = ({} : Platform).magicAccessors := by rw [X.admits.platform]
  obtain ⟨vm', hW', X', st⟩ := X.outThrough hlocks q (g := F0 m pc ls rest) rfl rfl rfl (cell := ce) (by rw [hT]; exact hcell) (by rw [hv]; rfl)
    (by obtain ⟨k9, h9, -⟩ := Vm.findClass_spec hcl; exact ⟨k9, h9⟩) (fun z hz => by
      rcases hpass z hz with h | ⟨hz0, nm, hl1, hn1⟩
      · exact Or.inl h
      · obtain ⟨c6, hc6, hcl6⟩ := Cond.classLink_spec hown hl1 e.platform hpl
        obtain ⟨a8, b8, h1, h2, h3⟩ := hn1
        cases Option.some.inj (h1.symm.trans hcl)
        cases Option.some.inj (h2.symm.trans hc6)
        exact Or.inr ⟨hz0, _, hcl6, h3⟩)
  obtain ⟨g₀, hfr⟩ := X'.frames_eq
  have hcell9 : ((T.setVm vm').setFrames (.throwing q :: below)).heap[q]? = some ce := by
    show T.heap[q]? = some ce
    rw [hT]; exact hcell
  have hend : Ended ((T.setVm vm').setFrames (.throwing q :: below)) below (.threw q) := State.frames_setFrames _ (State.cur_lt_of_frames hfr)
  refine ⟨(T.setVm vm').setFrames (.throwing q :: below), ?_, .threw q, X'.here.running, hend, Or.inr ⟨q, rfl, E, ce, locs, hx _ hT (X'.ends _).1.alike, hcell9, hv, hcl, (X'.ends _).1, (X'.ends _).2.mono hc hs, hf⟩⟩
  rw [X.pushThrowing_eq]
  exact st
/-- a thing of a world lies in the heap -/
theorem vx_lt {D : va_G} {cl : List vw_C} {ws : va_W} {H1 : Heap} (h : va_P D cl ws H1) {k : Nat} {q : Nat × va_E} (hk : ws[k]? = some q) : q.1 < H1.size := (h k q hk).lt
end VXS
/-! ===== END ===== -/
/-! ===== BEGIN methods with a table of their own: called by a name, returning or throwing ===== -/
section VXH
/-! vx_backW, vx_callVX, vx_callSX, vx_callVW, vx_runVW, vx_runVX, vx_runSX, vx_ofWH follow the same proofs as their sisters above (Free/Laws.lean, Shelf42/LK1.lean); vx_outP calls Shelf42/NT130.lean (outThrough). -/
section
variable {l : Launch} {R : Room} {p : Program} {e : Env} {below : List Frame} {s : State} {sargs : Array Value} {y : MethodName} {len W9 : Nat}
theorem vx_backW {ws : List Cond} {rm : Room} {Pc : Array Value → State → Prop} {Qc : Array Value → State → Outcome → State → Prop} {XC : String → State → State → Prop} {mc ms : Nat} {free : Addr → Prop} {bytes : ByteArray} {maxL : Nat} {ret : Option FieldType} {hh : List (Nat × Nat × Nat × Nat)}
    (hM : vx_Met l y ws rm Pc Qc XC mc ms free) (hblind : FrameBlind Pc) (hrc : rm.cells = mc) (hrs : rm.slots = ms)
    (hframes : rm.frames + 1 ≤ R.frames) (hlocals : W9 + (maxL + 11) + rm.locals ≤ R.locals)
    (hws : ∀ w ∈ ws, ∀ a' U, s.WarmedH U.vm → w.before a' U = true) (hcode : Cond.codeWith y bytes maxL ret hh ∈ ws) (hinit : ∀ a' U, s.WarmedH U.vm → (Cond.initialized y.cls).before a' U = true) :
    vx_Back l R p e below s sargs y len W9 (PreOf R mc ms Pc) (PostOf Qc mc ms free) (vx_Post XC mc ms free) := by
  intro m meth c A g ig mk a X hg hsize hdg hW hn hp
  have h1 : (headSpec ws rm).pre.before a A.U = true := atoms_intro fun w hw => hws w hw _ _ X.warmed
  have h2 : (Cond.codeWith y bytes maxL ret hh).before a A.U = true := hws _ hcode _ _ X.warmed
  have h3 : (Cond.initialized y.cls).before a A.U = true := hinit _ _ X.warmed
  have h4 : A.cells + (headSpec ws rm).room.cells ≤ R.cells := by rw [show (headSpec ws rm).room.cells = mc from hrc]; exact hp.1
  have h5 : A.slots + (headSpec ws rm).room.slots ≤ R.slots := by rw [show (headSpec ws rm).room.slots = ms from hrs]; exact hp.2.1
  have hPc : Pc a (A.U.calling g mk a) := hblind _ _ _ _ hp.2.2
  obtain ⟨U, Ls, c0, s0⟩ := A
  dsimp only [Pt.U, Pt.locs, Pt.cells, Pt.slots] at h1 h2 h3 h4 h5 X hn hPc ⊢
  obtain ⟨m9, methY, cY, hn9, hmY, hcY, -, hlY, -⟩ := Cond.codeWith_spec h2
  cases Option.some.inj (hn9.symm.trans hn)
  obtain ⟨kY, hkY, -⟩ := className_of_methodNamed hn
  have hinitY : kY.init = .initialized := Cond.initialized_spec (findClass_of_methodNamed hn) hkY h3
  have h : At U g.method c below := by rw [hg]; exact X.here
  have hlocals9 : W9 + (maxL + 11) + (headSpec ws rm).room.locals ≤ R.locals := hlocals
  have happ : (headSpec ws rm).appliesLoose y e.platform (U.calling g mk a) = true :=
    Spec.appliesLoose_calling (g := g) h hdg hn hkY hinitY
      (X.room_calling (g := g) (R' := (headSpec ws rm).room) hsize hmY hcY hframes (by rw [hlY]; omega) h4 h5) h1
  obtain ⟨mid, hmid⟩ := h.above
  have hfr : (U.setTop g).frames = (.java g :: mid) ++ below := by rw [State.frames_setTop' g h.top, hmid]; rfl
  obtain ⟨o, s₂, hsteps, -, hend, hq⟩ := Steps.callFree hM p X.admits X.cas X.clock (acts := []) hfr happ hPc trivial
  have hq' : vx_Q Qc XC mc ms free a (U.calling g mk a) o s₂ := hq
  rw [State.frames_setTop' g h.top] at hend
  obtain ⟨g₀, hg0⟩ := Option.isSome_iff_exists.mp h.top
  obtain ⟨r, hr⟩ := State.topJava?_eq_some.mp hg0
  have hr' : (({ U with heap := s₂.heap, slotsUsed := s₂.slotsUsed } : State).setVm s₂.vm).frames = .java g₀ :: r := hr
  rcases hq' with ⟨hqc, L, hfe, hL⟩ | ⟨q, rfl, E, ce, L, hx, hce, hcv, hcl, hW₂, hsm, hL⟩
  · obtain ⟨⟨v, rfl⟩, hW₂, e2, q2, q3, q4, q5, q6⟩ := id hfe
    have e3 : s₂ = ({ (U.calling g mk a).setFrames s₂.frames with heap := s₂.heap, slotsUsed := s₂.slotsUsed } : State).setVm s₂.vm := by
      have : s₂ = ({ s₂ with vm := (U.calling g mk a).vm } : State).setVm s₂.vm := rfl
      rw [e2] at this
      exact this
    obtain ⟨c₂, i₂, len₂, hc₂, hd₂, hf₂⟩ := hend
    have hW' : U.WarmedH s₂.vm := hW₂
    have hcc : c₂ = c := by
      have h1 : s₂.code? g.method = U.code? g.method := by
        rw [State.code?_eq, State.code?_eq, hW'.alike.method?]
      exact Option.some.inj (hc₂.symm.trans (h1.trans h.code))
    subst hcc
    have hlen : len₂ = len := by rw [hdg] at hd₂; cases hd₂; rfl
    subst hlen
    have hs₂ : s₂ = (({ U with heap := s₂.heap, slotsUsed := s₂.slotsUsed } : State).setVm s₂.vm).setTop { g with pc := g.pc + len₂, stack := v.toList ++ g.stack } := by
      refine e3.trans ?_
      rw [hf₂, State.calling_eq h.top, State.setFrames_setFrames, State.setTop_of_frames _ hr', hr]
      rfl
    have hsame : U.sameButNew ({ U with heap := s₂.heap, slotsUsed := s₂.slotsUsed } : State) L mc ms := by
      refine ⟨?_, q2, q3, q4, q5, q6⟩
      obtain ⟨t, ht, -⟩ := State.frames_cons hr
      show ({ U with heap := s₂.heap, slotsUsed := s₂.slotsUsed } : State) = { U.setFrames U.frames with heap := s₂.heap, slotsUsed := s₂.slotsUsed }
      rw [State.setFrames_self ht]
    subst hg
    refine Or.inl ⟨v, ⟨(({ U with heap := s₂.heap, slotsUsed := s₂.slotsUsed } : State).setVm s₂.vm), Ls ++ L, c0 + mc, s0 + ms⟩,
      ⟨X.admits, X.cas, X.clock, X.frames, X.room, X.hears, X.method, X.code, (X.here.setHeapUsed s₂.heap s₂.slotsUsed).setVm hW'.alike, X.tail, State.WarmedH.trans X.warmed hW', X.limits, X.bytes, X.same.trans (hsame.setVm s.vm)⟩,
      ⟨g, mk, s₂, L, rfl, rfl, hqc, rfl, hL, rfl, rfl⟩, ?_⟩
    show Steps p.tables e below _ ((({ U with heap := s₂.heap, slotsUsed := s₂.slotsUsed } : State).setVm s₂.vm).setTop { g with pc := g.pc + len₂, stack := v.toList ++ g.stack })
    rw [← hs₂]
    exact hsteps
  · obtain ⟨e2, q2, q3, q4, q5, q6⟩ := id hsm
    have e3 : s₂ = ({ (U.calling g mk a).setFrames s₂.frames with heap := s₂.heap, slotsUsed := s₂.slotsUsed } : State).setVm s₂.vm := by
      have : s₂ = ({ s₂ with vm := (U.calling g mk a).vm } : State).setVm s₂.vm := rfl
      rw [e2] at this
      exact this
    have hf₂ : s₂.frames = .throwing q :: .java g :: U.frames.tail := hend
    have hW' : U.WarmedH s₂.vm := hW₂
    have hs₂ : s₂ = ((({ U with heap := s₂.heap, slotsUsed := s₂.slotsUsed } : State).setVm s₂.vm).setTop g).pushFrame (.throwing q) := by
      refine e3.trans ?_
      rw [hf₂, State.calling_eq h.top, State.setFrames_setFrames, State.pushFrame, State.frames_setTop _ hr', State.setTop_of_frames _ hr', State.setFrames_setFrames, hr]
      rfl
    have hsame : U.sameButNew ({ U with heap := s₂.heap, slotsUsed := s₂.slotsUsed } : State) L mc ms := by
      refine ⟨?_, q2, q3, q4, q5, q6⟩
      obtain ⟨t, ht, -⟩ := State.frames_cons hr
      show ({ U with heap := s₂.heap, slotsUsed := s₂.slotsUsed } : State) = { U.setFrames U.frames with heap := s₂.heap, slotsUsed := s₂.slotsUsed }
      rw [State.setFrames_self ht]
    subst hg
    refine Or.inr ⟨q, ⟨(({ U with heap := s₂.heap, slotsUsed := s₂.slotsUsed } : State).setVm s₂.vm), Ls ++ L, c0 + mc, s0 + ms⟩,
      ⟨X.admits, X.cas, X.clock, X.frames, X.room, X.hears, X.method, X.code, (X.here.setHeapUsed s₂.heap s₂.slotsUsed).setVm hW'.alike, X.tail, State.WarmedH.trans X.warmed hW', X.limits, X.bytes, X.same.trans (hsame.setVm s.vm)⟩,
      ⟨g, mk, s₂, L, E, ce, rfl, rfl, hx, hce, hcv, hcl, rfl, hL, rfl, rfl⟩, ?_⟩
    show Steps p.tables e below _ (((({ U with heap := s₂.heap, slotsUsed := s₂.slotsUsed } : State).setVm s₂.vm).setTop g).pushFrame (.throwing q))
    rw [← hs₂]
    exact hsteps
end
variable {p : Program} {l : Launch} {e : Env} {R : Room} {s : State} {m : MethodId} {args : Array Value} {below : List Frame} {meth : Method} {c : Code} {T : State} {H : Heap} {locs : List Loc} {cells slots : Nat}
theorem vx_callVX (X : Stand p l e R s m args below meth c T locs cells slots) (hexec : p.tables.exec = Jvm.exec) {own C : String} {index : Nat} {y : MethodName} {bytes : ByteArray} {maxL : Nat} {ret : Option FieldType} {hh : List (Nat × Nat × Nat × Nat)}
    (hown : s.vm.findClass own = some m.cls) (hlink : (Cond.methodLink own index y).before args s = true) (hinst : (Cond.instanceMethod y).before args s = true) (hsel : (Cond.selects C y y).before args s = true)
    (hcode : (Cond.codeWith y bytes maxL ret hh).before args s = true) (hy : y.cls ≠ "java/lang/invoke/MethodHandle" ∧ y.cls ≠ "java/lang/invoke/VarHandle")
    {W9 : Nat} {Pre : Pt → Array Value → Prop} {Post : Pt → Array Value → Option Value → Pt → Prop} {PostX : Pt → Array Value → Addr → Pt → Prop} (hK : vx_Back l R p e below s args y 3 W9 Pre Post PostX)
    {b : Addr} {cellB : Cell} (hcell : T.heap[b]? = some cellB) (hobj : cellB.vm.isStatics = false) (hcls : s.vm.findClass C = some cellB.cls)
    {g : JFrame} (hg : g.method = m) (hsize : g.locals.size = c.maxLocals) {argsL rest : List Value} (hlen : ∀ sig, parseMethodDescriptor y.desc = some sig → argsL.length = sig.parameters.length)
    (hstack : g.stack = argsL.reverse ++ .ref b :: rest) (hW : 2 * g.monitorRoom + (rest.map fun v => v.category).sum ≤ W9) (hdg : decode c.code g.pc = .ok (.invokevirtual index, 3))
    (hpre : ∀ vm₁, s.WarmedH vm₁ → Pre ⟨T.setVm vm₁, locs, cells, slots⟩ (Value.ref b :: argsL).toArray) :
    (∃ (v : Option Value) (vm₁ : Vm) (B : Pt), s.WarmedH vm₁ ∧ Stand p l e R s m args below meth c B.U B.locs B.cells B.slots ∧ Post ⟨T.setVm vm₁, locs, cells, slots⟩ (Value.ref b :: argsL).toArray v B ∧
      ∀ target, Steps p.tables e below (B.U.setTop { g with pc := g.pc + 3, stack := v.toList ++ rest }) target → Steps p.tables e below (T.setTop g) target) ∨
    (∃ (q : Addr) (vm₁ : Vm) (B : Pt), s.WarmedH vm₁ ∧ Stand p l e R s m args below meth c B.U B.locs B.cells B.slots ∧ PostX ⟨T.setVm vm₁, locs, cells, slots⟩ (Value.ref b :: argsL).toArray q B ∧
      Steps p.tables e below (T.setTop g) ((B.U.setTop { g with stack := rest }).pushFrame (.throwing q))) := by
  obtain ⟨mk, methM, hnamed, hmethM, hstM, habM⟩ := Cond.instanceMethod_spec hinst
  obtain ⟨m8, methM', cM, hn8, hmethM', -, -, -, -, -, -, hsigM⟩ := Cond.codeWith_spec hcode
  cases Option.some.inj (hn8.symm.trans hnamed)
  cases hmethM.symm.trans hmethM'
  obtain ⟨c2, r2, m2, q1, q2, q3, q4, kP, hkP, hkPi⟩ := Cond.selects_spec hsel
  cases hcls.symm.trans q1
  cases (State.methodFound?_of_named hnamed hy).symm.trans q2
  cases hnamed.symm.trans q3
  have hselP : selectMethod e.platform s.vm cellB.cls mk = .method mk := by rw [Launch.admits_selectMethod X.admits]; exact q4
  obtain ⟨vm₁, X₁, hstep₁⟩ := X.invokevirtual hexec hown hlink hnamed hmethM hstM hkP hkPi hy (a := b) (cell := cellB) hcell
    (fun z h => by rw [h] at hobj; cases hobj) hselP hmethM habM hkP hkPi (g := g) hg (argsL := argsL) (rest := rest) (hlen _ hsigM) hstack hdg
  rcases hK m meth c ⟨T.setVm vm₁, locs, cells, slots⟩ { g with stack := rest } (.invokevirtual index) mk (Value.ref b :: argsL).toArray X₁ hg hsize hdg hW (X₁.named hnamed) (hpre vm₁ X₁.warmed) with ⟨v, B, X', hpost, hsteps⟩ | ⟨q, B, X', hpost, hsteps⟩
  · exact Or.inl ⟨v, vm₁, B, X₁.warmed, X', hpost, fun target h => hstep₁ _ fun acts => by rw [doInvoke_state]; exact hsteps.trans h⟩
  · exact Or.inr ⟨q, vm₁, B, X₁.warmed, X', hpost, hstep₁ _ fun acts => by rw [doInvoke_state]; exact hsteps⟩
theorem vx_callSX (X : Stand p l e R s m args below meth c T locs cells slots) (hexec : p.tables.exec = Jvm.exec) {own : String} {index : Nat} {y : MethodName} {bytes : ByteArray} {maxL : Nat} {ret : Option FieldType} {hh : List (Nat × Nat × Nat × Nat)}
    (hown : s.vm.findClass own = some m.cls) (hlink : (Cond.methodLink own index y).before args s = true) (hstat : (Cond.static y).before args s = true) (hinit : (Cond.initialized y.cls).before args s = true)
    (hcode : (Cond.codeWith y bytes maxL ret hh).before args s = true) (hy : y.cls ≠ "java/lang/invoke/MethodHandle" ∧ y.cls ≠ "java/lang/invoke/VarHandle")
    {W9 : Nat} {Pre : Pt → Array Value → Prop} {Post : Pt → Array Value → Option Value → Pt → Prop} {PostX : Pt → Array Value → Addr → Pt → Prop} (hK : vx_Back l R p e below s args y 3 W9 Pre Post PostX)
    {g : JFrame} (hg : g.method = m) (hsize : g.locals.size = c.maxLocals) {argsL rest : List Value} (hlen : ∀ sig, parseMethodDescriptor y.desc = some sig → argsL.length = sig.parameters.length)
    (hstack : g.stack = argsL.reverse ++ rest) (hW : 2 * g.monitorRoom + (rest.map fun v => v.category).sum ≤ W9) (hdg : decode c.code g.pc = .ok (.invokestatic index, 3))
    (hpre : ∀ vm₁, s.WarmedH vm₁ → Pre ⟨T.setVm vm₁, locs, cells, slots⟩ argsL.toArray) :
    (∃ (v : Option Value) (vm₁ : Vm) (B : Pt), s.WarmedH vm₁ ∧ Stand p l e R s m args below meth c B.U B.locs B.cells B.slots ∧ Post ⟨T.setVm vm₁, locs, cells, slots⟩ argsL.toArray v B ∧
      ∀ target, Steps p.tables e below (B.U.setTop { g with pc := g.pc + 3, stack := v.toList ++ rest }) target → Steps p.tables e below (T.setTop g) target) ∨
    (∃ (q : Addr) (vm₁ : Vm) (B : Pt), s.WarmedH vm₁ ∧ Stand p l e R s m args below meth c B.U B.locs B.cells B.slots ∧ PostX ⟨T.setVm vm₁, locs, cells, slots⟩ argsL.toArray q B ∧
      Steps p.tables e below (T.setTop g) ((B.U.setTop { g with stack := rest }).pushFrame (.throwing q))) := by
  obtain ⟨mk, methM, cM, hnamed, hmethM, -, -, -, -, -, -, hsigM⟩ := Cond.codeWith_spec hcode
  have hstatic : methM.isStatic = true := Cond.static_spec hnamed hmethM hstat
  obtain ⟨kP, hkP, -⟩ := className_of_methodNamed hnamed
  have hinitP : kP.init = .initialized := Cond.initialized_spec (findClass_of_methodNamed hnamed) hkP hinit
  obtain ⟨vm₁, X₁, hstep₁⟩ := X.invokestatic hexec hown hlink hnamed hmethM hstatic hkP hinitP hy (g := g) hg (argsL := argsL) (rest := rest) (hlen _ hsigM) hstack hdg
  rcases hK m meth c ⟨T.setVm vm₁, locs, cells, slots⟩ { g with stack := rest } (.invokestatic index) mk argsL.toArray X₁ hg hsize hdg hW (X₁.named hnamed) (hpre vm₁ X₁.warmed) with ⟨v, B, X', hpost, hsteps⟩ | ⟨q, B, X', hpost, hsteps⟩
  · exact Or.inl ⟨v, vm₁, B, X₁.warmed, X', hpost, fun target h => hstep₁ _ fun acts => by rw [doInvoke_state]; exact hsteps.trans h⟩
  · exact Or.inr ⟨q, vm₁, B, X₁.warmed, X', hpost, hstep₁ _ fun acts => by rw [doInvoke_state]; exact hsteps⟩
theorem vx_callVW (X : Stand p l e R s m args below meth c T locs cells slots) (hexec : p.tables.exec = Jvm.exec) {own C : String} {index : Nat} {y : MethodName} {bytes : ByteArray} {maxL : Nat} {ret : Option FieldType} {hh : List (Nat × Nat × Nat × Nat)}
    (hown : s.vm.findClass own = some m.cls) (hlink : (Cond.methodLink own index y).before args s = true) (hinst : (Cond.instanceMethod y).before args s = true) (hsel : (Cond.selects C y y).before args s = true)
    (hcode : (Cond.codeWith y bytes maxL ret hh).before args s = true) (hy : y.cls ≠ "java/lang/invoke/MethodHandle" ∧ y.cls ≠ "java/lang/invoke/VarHandle")
    {W9 : Nat} {Pre : Pt → Array Value → Prop} {Post : Pt → Array Value → Option Value → Pt → Prop} (hK : Back l R p e below s args y 3 W9 Pre Post)
    {b : Addr} {cellB : Cell} (hcell : T.heap[b]? = some cellB) (hobj : cellB.vm.isStatics = false) (hcls : s.vm.findClass C = some cellB.cls)
    {g : JFrame} (hg : g.method = m) (hsize : g.locals.size = c.maxLocals) {argsL rest : List Value} (hlen : ∀ sig, parseMethodDescriptor y.desc = some sig → argsL.length = sig.parameters.length)
    (hstack : g.stack = argsL.reverse ++ .ref b :: rest) (hW : 2 * g.monitorRoom + (rest.map fun v => v.category).sum ≤ W9) (hdg : decode c.code g.pc = .ok (.invokevirtual index, 3))
    (hpre : ∀ vm₁, s.WarmedH vm₁ → Pre ⟨T.setVm vm₁, locs, cells, slots⟩ (Value.ref b :: argsL).toArray) :
    ∃ (v : Option Value) (vm₁ : Vm) (B : Pt), s.WarmedH vm₁ ∧ Stand p l e R s m args below meth c B.U B.locs B.cells B.slots ∧ Post ⟨T.setVm vm₁, locs, cells, slots⟩ (Value.ref b :: argsL).toArray v B ∧
      ∀ target, Steps p.tables e below (B.U.setTop { g with pc := g.pc + 3, stack := v.toList ++ rest }) target → Steps p.tables e below (T.setTop g) target := by
  obtain ⟨mk, methM, hnamed, hmethM, hstM, habM⟩ := Cond.instanceMethod_spec hinst
  obtain ⟨m8, methM', cM, hn8, hmethM', -, -, -, -, -, -, hsigM⟩ := Cond.codeWith_spec hcode
  cases Option.some.inj (hn8.symm.trans hnamed)
  cases hmethM.symm.trans hmethM'
  obtain ⟨c2, r2, m2, q1, q2, q3, q4, kP, hkP, hkPi⟩ := Cond.selects_spec hsel
  cases hcls.symm.trans q1
  cases (State.methodFound?_of_named hnamed hy).symm.trans q2
  cases hnamed.symm.trans q3
  have hselP : selectMethod e.platform s.vm cellB.cls mk = .method mk := by rw [Launch.admits_selectMethod X.admits]; exact q4
  obtain ⟨vm₁, X₁, hstep₁⟩ := X.invokevirtual hexec hown hlink hnamed hmethM hstM hkP hkPi hy (a := b) (cell := cellB) hcell
    (fun z h => by rw [h] at hobj; cases hobj) hselP hmethM habM hkP hkPi (g := g) hg (argsL := argsL) (rest := rest) (hlen _ hsigM) hstack hdg
  obtain ⟨v, B, X', hpost, hsteps⟩ := hK m meth c ⟨T.setVm vm₁, locs, cells, slots⟩ { g with stack := rest } (.invokevirtual index) mk (Value.ref b :: argsL).toArray X₁ hg hsize hdg hW (X₁.named hnamed) (hpre vm₁ X₁.warmed)
  exact ⟨v, vm₁, B, X₁.warmed, X', hpost, fun target h => hstep₁ _ fun acts => by rw [doInvoke_state]; exact hsteps.trans h⟩
abbrev vx_CVW (R : Room) (s : State) (args : Array Value) (own C : String) (index : Nat) (y : MethodName) (bytes : ByteArray) (maxL : Nat) (ret : Option FieldType) (hh : List (Nat × Nat × Nat × Nat)) (ws : List Cond) (rm : Room) (mc ms n : Nat) : Prop :=
  (rm.cells = mc ∧ rm.slots = ms ∧ rm.frames + 1 ≤ R.frames ∧ 8 + (maxL + 11) + rm.locals ≤ R.locals ∧ (∀ w ∈ ws, ∀ (a' : Array Value) (U : State), s.WarmedH U.vm → w.before a' U = true) ∧ Cond.codeWith y bytes maxL ret hh ∈ ws) ∧
  (Cond.codeWith y bytes maxL ret hh).before args s = true ∧ (Cond.initialized y.cls).before args s = true ∧ (y.cls ≠ "java/lang/invoke/MethodHandle" ∧ y.cls ≠ "java/lang/invoke/VarHandle") ∧
  (∀ sig, parseMethodDescriptor y.desc = some sig → n = sig.parameters.length) ∧ (Cond.methodLink own index y).before args s = true ∧ (Cond.instanceMethod y).before args s = true ∧ (Cond.selects C y y).before args s = true
theorem vx_cwVW {own C : String} {index maxL mc ms : Nat} {y : MethodName} {bytes : ByteArray} {ret : Option FieldType} {hh : List (Nat × Nat × Nat × Nat)} {Ts ws ws' : List Cond} {rm : Room} (n : Nat) (ht : ∀ w ∈ Ts, w.before args s = true) (hT : GoodIn Ts (wsV own index C y ws)) (hw : ws = Cond.codeWith y bytes maxL ret hh :: ws') (hrc : rm.cells = mc) (hrs : rm.slots = ms)
    (hd : y.cls = C ∧ y.cls ≠ "java/lang/invoke/MethodHandle" ∧ y.cls ≠ "java/lang/invoke/VarHandle" ∧ (parseMethodDescriptor y.desc).map (fun d => d.parameters.length) = some n) (hR : rm.frames + 1 ≤ R.frames ∧ 8 + (maxL + 11) + rm.locals ≤ R.locals) :
    vx_CVW R s args own C index y bytes maxL ret hh ws rm mc ms n := by
  obtain ⟨hC, hd⟩ := hd
  subst hC
  have ok : ∀ w ∈ wsV own index y.cls y ws, w.before args s = true := fun w h => ht w (hT w h).1
  have hG : GoodIn Ts ws := fun w h => hT w (by unfold wsV; exact List.mem_append_right _ h)
  have hc : Cond.codeWith y bytes maxL ret hh ∈ ws := by rw [hw]; exact List.mem_cons_self
  refine ⟨⟨hrc, hrs, hR.1, hR.2, pay_in ht hG, hc⟩, ht _ (hG _ hc).1, ok _ (by simp [wsV]), ⟨hd.1, hd.2.1⟩, fun sig h => ?_, ok _ (by simp [wsV]), ok _ (by simp [wsV]), ok _ (by simp [wsV])⟩
  have h2 := hd.2.2
  rw [h] at h2
  exact (Option.some.inj h2).symm
theorem vx_runVW {y : MethodName} {bytes cc : ByteArray} {maxL nL mc ms n index : Nat} {ret : Option FieldType} {hh : List (Nat × Nat × Nat × Nat)} {ws : List Cond} {rm : Room} {Pc : Array Value → State → Prop} {Qc : Array Value → State → Outcome → State → Prop} {free : Addr → Prop} {Ts : List Cond} {own C : String} {b : Addr} {As rest : List Value} {g : JFrame}
    (S : CallFix p m c cc nL s args Ts own) (hM : Met l y ws rm Pc Qc mc ms free) (cw : vx_CVW R s args own C index y bytes maxL ret hh ws rm mc ms n) (hp : PreV s H C b Pc As)
    (hg : g.method = m) (hn : As.length = n) (hsize : g.locals.size = nL) (hstack : g.stack = As.reverse ++ .ref b :: rest) (hW : 2 * g.monitorRoom + (rest.map fun v => v.category).sum ≤ 8) (hdg : decode cc g.pc = .ok (.invokevirtual index, 3)) (hf : cells + mc ≤ R.cells ∧ slots + ms ≤ R.slots) :
    va_Run p l e R s m args below meth c H locs cells slots mc ms g rest (Qc (Value.ref b :: As).toArray) free := by
  obtain ⟨⟨hrc, hrs, hfr, hlo, hws, hcw⟩, hcode, hini, hy, hlen, hl, hin, hse⟩ := cw
  have hK : Back l R p e below s args y 3 8 (PreOf R mc ms Pc) (PostOf Qc mc ms free) := va_backW (hh := hh) (bytes := bytes) (maxL := maxL) (ret := ret) hM hp.1 hrc hrs hfr hlo hws hcw (fun a' U hW => word_at hW (Or.inl (by first | rfl | simp [Cond.onTables, Cond.keeps, Cond.steady])) hini)
  obtain ⟨hx, hb, hml, ho, -⟩ := S
  obtain ⟨-, ⟨cellB, hcB, hoB, hclB⟩, hPc⟩ := hp
  intro T hT X
  obtain ⟨v, vm₁, ⟨U', l2, c2, s2⟩, hW₁, X', ⟨g', mk, t, L, e1, e2, hq, h1, hL, h2, h3⟩, st⟩ := vx_callVW X hx (C := C) (hh := hh) (bytes := bytes) (maxL := maxL) (ret := ret) ho hl hin hse hcode hy hK (by rw [hT]; exact hcB) hoB hclB hg (hsize.trans hml.symm) (argsL := As) (rest := rest) (fun sig h => hn.trans (hlen sig h)) hstack hW (by rw [hb]; exact hdg)
    (fun vm₁ hW₁ => ⟨hf.1, hf.2, hPc (T.setVm vm₁) hT hW₁⟩)
  dsimp only [Pt.U, Pt.locs, Pt.cells, Pt.slots] at X' e1 e2 h1 h2 h3 st
  subst h1; subst h2; subst h3
  exact ⟨v, (T.setVm vm₁).calling g' mk (Value.ref b :: As).toArray, t, U', L, hT, X', hL, e1, e2, hq, st⟩
section
variable {y : MethodName} {bytes cc : ByteArray} {maxL nL mc ms n index : Nat} {ret : Option FieldType} {ws : List Cond} {rm : Room} {Pc : Array Value → State → Prop} {Qc : Array Value → State → Outcome → State → Prop} {XC : String → State → State → Prop} {free : Addr → Prop} {Ts : List Cond} {own C : String} {b : Addr} {As rest : List Value} {g : JFrame}
theorem vx_runVX {hh : List (Nat × Nat × Nat × Nat)} (S : CallFix p m c cc nL s args Ts own) (hM : vx_Met l y ws rm Pc Qc XC mc ms free) (cw : vx_CVW R s args own C index y bytes maxL ret hh ws rm mc ms n) (hp : PreV s H C b Pc As)
    (hg : g.method = m) (hn : As.length = n) (hsize : g.locals.size = nL) (hstack : g.stack = As.reverse ++ .ref b :: rest) (hW : 2 * g.monitorRoom + (rest.map fun v => v.category).sum ≤ 8) (hdg : decode cc g.pc = .ok (.invokevirtual index, 3)) (hf : cells + mc ≤ R.cells ∧ slots + ms ≤ R.slots) :
    vx_Run p l e R s m args below meth c H locs cells slots mc ms g rest (Qc (Value.ref b :: As).toArray) XC free := by
  obtain ⟨⟨hrc, hrs, hfr, hlo, hws, hcw⟩, hcode, hini, hy, hlen, hl, hin, hse⟩ := cw
  have hK : vx_Back l R p e below s args y 3 8 (PreOf R mc ms Pc) (PostOf Qc mc ms free) (vx_Post XC mc ms free) := vx_backW (hh := hh) (bytes := bytes) (maxL := maxL) (ret := ret) hM hp.1 hrc hrs hfr hlo hws hcw (fun a' U hW => word_at hW (Or.inl (by first | rfl | simp [Cond.onTables, Cond.keeps, Cond.steady])) hini)
  obtain ⟨hx, hb, hml, ho, -⟩ := S
  obtain ⟨-, ⟨cellB, hcB, hoB, hclB⟩, hPc⟩ := hp
  intro T hT X
  rcases vx_callVX X hx (C := C) (hh := hh) (bytes := bytes) (maxL := maxL) (ret := ret) ho hl hin hse hcode hy hK (by rw [hT]; exact hcB) hoB hclB hg (hsize.trans hml.symm) (argsL := As) (rest := rest) (fun sig h => hn.trans (hlen sig h)) hstack hW (by rw [hb]; exact hdg)
    (fun vm₁ hW₁ => ⟨hf.1, hf.2, hPc (T.setVm vm₁) hT hW₁⟩) with ⟨v, vm₁, ⟨U', l2, c2, s2⟩, hW₁, X', ⟨g', mk, t, L, e1, e2, hq, h1, hL, h2, h3⟩, st⟩ | ⟨q, vm₁, ⟨U', l2, c2, s2⟩, hW₁, X', ⟨g', mk, t, L, E, ce, e1, e2, hq, hce, hcv, hcl, h1, hL, h2, h3⟩, st⟩
  · dsimp only [Pt.U, Pt.locs, Pt.cells, Pt.slots] at X' e1 e2 h1 h2 h3 st
    subst h1; subst h2; subst h3
    exact Or.inl ⟨v, (T.setVm vm₁).calling g' mk (Value.ref b :: As).toArray, t, U', L, hT, X', hL, e1, e2, hq, st⟩
  · dsimp only [Pt.U, Pt.locs, Pt.cells, Pt.slots] at X' e1 e2 h1 h2 h3 st hcl
    subst h1; subst h2; subst h3
    exact Or.inr ⟨q, (T.setVm vm₁).calling g' mk (Value.ref b :: As).toArray, t, U', L, E, ce, hT, X', hL, e1, e2, hq, hce, hcv, vx_cls hW₁ hcl, st⟩
theorem vx_runSX {hh : List (Nat × Nat × Nat × Nat)} (S : CallFix p m c cc nL s args Ts own) (hM : vx_Met l y ws rm Pc Qc XC mc ms free) (cw : vx_CSW R s args own index y bytes maxL ret hh ws rm mc ms n) (hp : PreS s H Pc As)
    (hg : g.method = m) (hn : As.length = n) (hsize : g.locals.size = nL) (hstack : g.stack = As.reverse ++ rest) (hW : 2 * g.monitorRoom + (rest.map fun v => v.category).sum ≤ 8) (hdg : decode cc g.pc = .ok (.invokestatic index, 3)) (hf : cells + mc ≤ R.cells ∧ slots + ms ≤ R.slots) :
    vx_Run p l e R s m args below meth c H locs cells slots mc ms g rest (Qc As.toArray) XC free := by
  obtain ⟨⟨hrc, hrs, hfr, hlo, hws, hcw⟩, hcode, hini, hy, hlen, hl, hstt⟩ := cw
  have hK : vx_Back l R p e below s args y 3 8 (PreOf R mc ms Pc) (PostOf Qc mc ms free) (vx_Post XC mc ms free) := vx_backW (hh := hh) (bytes := bytes) (maxL := maxL) (ret := ret) hM hp.1 hrc hrs hfr hlo hws hcw (fun a' U hW => word_at hW (Or.inl (by first | rfl | simp [Cond.onTables, Cond.keeps, Cond.steady])) hini)
  obtain ⟨hx, hb, hml, ho, -⟩ := S
  intro T hT X
  rcases vx_callSX X hx (hh := hh) (bytes := bytes) (maxL := maxL) (ret := ret) ho hl hstt hini hcode hy hK hg (hsize.trans hml.symm) (argsL := As) (rest := rest) (fun sig h => hn.trans (hlen sig h)) hstack hW (by rw [hb]; exact hdg)
    (fun vm₁ hW₁ => ⟨hf.1, hf.2, hp.2 (T.setVm vm₁) hT hW₁⟩) with ⟨v, vm₁, ⟨U', l2, c2, s2⟩, hW₁, X', ⟨g', mk, t, L, e1, e2, hq, h1, hL, h2, h3⟩, st⟩ | ⟨q, vm₁, ⟨U', l2, c2, s2⟩, hW₁, X', ⟨g', mk, t, L, E, ce, e1, e2, hq, hce, hcv, hcl, h1, hL, h2, h3⟩, st⟩
  · dsimp only [Pt.U, Pt.locs, Pt.cells, Pt.slots] at X' e1 e2 h1 h2 h3 st
    subst h1; subst h2; subst h3
    exact Or.inl ⟨v, (T.setVm vm₁).calling g' mk As.toArray, t, U', L, hT, X', hL, e1, e2, hq, st⟩
  · dsimp only [Pt.U, Pt.locs, Pt.cells, Pt.slots] at X' e1 e2 h1 h2 h3 st hcl
    subst h1; subst h2; subst h3
    exact Or.inr ⟨q, (T.setVm vm₁).calling g' mk As.toArray, t, U', L, E, ce, hT, X', hL, e1, e2, hq, hce, hcv, vx_cls hW₁ hcl, st⟩
end
end VXH
theorem vx_ofWH {l : Launch} {y : MethodName} {ws ws' : List Cond} {rm : Room} {Pc : Array Value → State → Prop} {Qc : Array Value → State → Outcome → State → Prop} {XC : String → State → State → Prop} {mc ms : Nat} {free : Addr → Prop} {cc : ByteArray} {maxL : Nat} {ret : Option FieldType} {hh : List (Nat × Nat × Nat × Nat)}
    (hy : plainName y.cls = true) (hw : ws = Cond.codeWith y cc maxL ret hh :: ws')
    (body : ∀ p e s m args below meth c s₁, BodyLoose p l y (headSpec ws rm) cc maxL ret e s m args below meth c s₁ → c.maxLocals = maxL → Pc args s →
      W p l e (headSpec ws rm).room s m args below meth c s.heap [] 0 0 (vx_MQ below Qc XC args s mc ms free) (entryFrame m args maxL)) : vx_Met l y ws rm Pc Qc XC mc ms free := by
  refine MetFree.of_bodyS (code := cc) (maxLocals := maxL) (ret := ret) hy ?_ ?_
  · intro args s m h hn
    obtain ⟨m9, meth, c, hn9, h1, h2, h3, h4, -, h5, h6, -⟩ := Cond.codeWith_spec (atoms_spec (ws := ws) h _ (by rw [hw]; exact List.mem_cons_self))
    cases hn.symm.trans hn9
    exact ⟨meth, c, h1, h2, h3, h4, h5, h6⟩
  · intro p e s m args below meth c s₁ B hml hP _
    have hh0 : s₁.heap = s.heap := by rw [B.state]; rfl
    obtain ⟨t, a1, o, b1, b2, b3⟩ := body p e s m args below meth c s₁ B hml hP s₁ hh0 (Stand.of_body B)
    exact ⟨t, o, a1, b1, b2, b3⟩
/-! ===== END ===== -/

/-! ===== BEGIN what the machine throws by itself, no traces kept ===== -/
section VXM
set_option maxHeartbeats 1000000 in
/-- the machine throws cls with the message text, no traces kept: from its note over the frame g to 'throwing' over the same frame (follows the proofs of Stand.vmThrowsMessage, Shelf/KitTracedVmS.lean, and Stand.throwsMessageColdBareV, StandMessageColdV.lean, without the step out of the frame) -/
theorem vx_vmAt {p : Program} {l : Launch} {e : Env} {R : Room} {s : State} {m₀ : MethodId} {args : Array Value} {below : List Frame} {meth : Method} {c : Code} {W : State} {locs : List Loc} {cells slots : Nat}
    (X : Stand p l e R s m₀ args below meth c W locs cells slots) (hexec : p.tables.exec = Jvm.exec) (htr : e.platform.stackTraces = false) {cls : String} {names : List String} {text : String}
    (hcls : Bundle.fit cls = true) (hnames : ∀ n ∈ names, Bundle.fit n = true) (hsoe : (cls == "java/lang/StackOverflowError") = false) (hoom : (cls == "java/lang/OutOfMemoryError") = false)
    (h : ∀ a ∈ Bundle.messageArmAtoms cls names, a.before args s = true)
    (hlocs : ∀ x ∈ locs, ∀ cell, s.heap[x.base]? = some cell → cell.vm.isStatics = false)
    (htext : (text == notModelled) = false) (hlimit : ¬ (stringBytes (stringToUtf16 text)).size > e.platform.arrayLengthLimit) (hheap : ¬ (stringBytes (stringToUtf16 text)).size * componentBytes .byte > e.platform.maxHeapBytes)
    {g : JFrame} (hg : g.method = m₀) (hsize : g.locals.size = c.maxLocals)
    (hRframes : names.length + 4 < R.frames) (hRlocals : 2 * g.monitorRoom + (g.stack.map fun v => v.category).sum + 10240 ≤ R.locals) (hshort : 13 * names.length + 55 ≤ 10240)
    (hRcells : cells + 3 ≤ R.cells) (hRslots : slots + ((stringBytes (stringToUtf16 text)).size + 4 + 6) ≤ R.slots) (hlocks : meth.locks = false) :
    ∃ (S : State) (q : Addr) (ce : Cell), (∀ target, Steps p.tables e below ((S.setTop g).pushFrame (.throwing q)) target → Steps p.tables e below ((W.setTop g).pushFrame (.throwNew cls (some text) none)) target) ∧
      Stand p l e R s m₀ args below meth c S locs (cells + 3) (slots + ((stringBytes (stringToUtf16 text)).size + 4 + 6)) ∧ S.heap[q]? = some ce ∧ s.vm.findClass cls = some ce.cls ∧ ce.vm = .none := by
  have howns : e.platform.frameOwnsMonitors = true := by rw [X.admits.platform]
  have hfin : e.platform.finalization = false := by rw [X.admits.platform]
  have hpl : e.platform.magicAccessors = ({} : Platform).magicAccessors := by rw [X.admits.platform]
  have a : ∀ x, x ∈ Bundle.messageArmAtoms cls names → x.holds args s none s [] = true := fun x hx => h x hx
  obtain ⟨T, Z0, L, -, Y⟩ := ThrowableC.of_atoms (args := args) howns hfin hpl (fun x hx => h x (by simp [Bundle.messageArmAtoms, hx]))
  obtain ⟨Z, M, LZ, LM, hnZ⟩ := Init0T.ofS_atoms (args := args) hpl L Y (fun x hx => h x (by simp [Bundle.messageArmAtoms, hx]))
  obtain ⟨P1, Ps, hlen, L1, hL, hP1m, hlink1, hlink⟩ := Bundle.chainS (args := args) hpl hnZ names cls hcls hnames (fun x hx => h x (by simp [Bundle.messageArmAtoms, hx]))
  obtain ⟨Zs, LZs, hn4, hfitv, hfitc⟩ := StringT.of_atoms (args := args) (fun x hx => h x (by simp [Bundle.messageArmAtoms, hx]))
  have hfound : s.vm.findClass cls = some P1.m.cls := findClass_of_methodNamed hP1m
  obtain ⟨c1, kX, hc1, hk, hord, -, -, hn6⟩ := Cond.instantiable_spec (a (.instantiable cls 6) (by simp [Bundle.messageArmAtoms]))
  cases Option.some.inj (hc1.symm.trans hfound)
  have hinit := Cond.initialized_spec hfound hk (a (.initialized cls) (by simp [Bundle.messageArmAtoms]))
  have hctor : kX.findMethod "<init>" "(Ljava/lang/String;)V" = some P1.m.idx := findMethod_of_methodNamed hP1m hk
  have hsel0 : selectMethod e.platform s.vm P1.m.cls T.fill0 = .method T.fill0 := by
    obtain ⟨c2, r2, m2, q1, q2, q3, q4, -⟩ := Cond.selects_spec (a (.selects cls Bundle.tFill0 Bundle.tFill0) (by simp [Bundle.messageArmAtoms]))
    cases Option.some.inj (q1.symm.trans hfound)
    cases Option.some.inj (q2.symm.trans (State.methodFound?_of_named Y.fill0 (by decide)))
    cases Option.some.inj (q3.symm.trans Y.fill0)
    rw [Launch.admits_selectMethod X.admits]; exact q4
  have hselF : selectMethod e.platform s.vm P1.m.cls T.fill = .method T.fill := by
    obtain ⟨c2, r2, m2, q1, q2, q3, q4, -⟩ := Cond.selects_spec (a (.selects cls Bundle.tFill Bundle.tFill) (by simp [Bundle.messageArmAtoms]))
    cases Option.some.inj (q1.symm.trans hfound)
    cases Option.some.inj (q2.symm.trans (State.methodFound?_of_named Y.fill (by decide)))
    cases Option.some.inj (q3.symm.trans Y.fill)
    rw [Launch.admits_selectMethod X.admits]; exact q4
  obtain ⟨cellS0, hcS0, hiss⟩ := Y.statics
  obtain ⟨u0, hu0⟩ := Cond.staticRefV Y.unassigned L.unassignedStatic L.statics hcS0 hiss (a (.isRef (.static Bundle.tN "UNASSIGNED_STACK" Bundle.steD)) (by simp [Bundle.messageArmAtoms]))
  obtain ⟨sen, hsen⟩ := Cond.staticRefV Y.sentinel L.sentinelStatic L.statics hcS0 hiss (a (.isRef (.static Bundle.tN "SUPPRESSED_SENTINEL" Bundle.listD)) (by simp [Bundle.messageArmAtoms]))
  obtain ⟨ci198, i198, fB, hk198, hg198, ha198, hsB, -, hnB, htB, hffB⟩ := Cond.ownField (t := .object "java/lang/Object") Y.found L.cls (by decide +kernel) (a (.fieldLink Bundle.tN 198 Bundle.tN "backtrace" "Ljava/lang/Object;") (by simp [Bundle.messageArmAtoms])) (a (.lays Bundle.tN Bundle.tN "backtrace" "Ljava/lang/Object;") (by simp [Bundle.messageArmAtoms])) e.platform hpl
  obtain ⟨cellS, hcS', heS, -, hkeep⟩ := X.same.2.2.2.2.2 T.aS cellS0 hcS0
  have hcellS : W.heap[T.aS]? = some cellS := hcS'
  have hout' : ∀ i, (⟨T.aS, i⟩ : Loc) ∉ locs := fun i hmem => by
    have := hlocs _ hmem cellS0 hcS0
    rw [hiss] at this; cases this
  have hknownS : cellS.vm ≠ .unknown := by
    rw [heS]; intro hu
    rw [show cellS0.vm = .unknown from hu] at hiss
    cases hiss
  have hvU : cellS.slots[T.fUnassigned.slot]? = some u0.v := by rw [hkeep _ (hout' _)]; exact hu0
  have hvSen : cellS.slots[T.fSentinel.slot]? = some sen.v := by rw [hkeep _ (hout' _)]; exact hsen
  obtain ⟨iM, hffM⟩ := Y.msg
  obtain ⟨tyC, dC, hdC, hdnC⟩ := Cond.laysAt hfound hk Y.cause (a (.lays cls Bundle.tN "cause" "Ljava/lang/Throwable;") (by simp [Bundle.messageArmAtoms]))
  obtain ⟨tyS, dS, hdS, hdnS⟩ := Cond.laysAt hfound hk Y.stack (a (.lays cls Bundle.tN "stackTrace" Bundle.steD) (by simp [Bundle.messageArmAtoms]))
  obtain ⟨tyP, dP, hdP, hdnP⟩ := Cond.laysAt hfound hk Y.supp (a (.lays cls Bundle.tN "suppressedExceptions" Bundle.listD) (by simp [Bundle.messageArmAtoms]))
  obtain ⟨tyM, dM, hdM, hdnM⟩ := Cond.laysAt hfound hk hffM (a (.lays cls Bundle.tN "detailMessage" "Ljava/lang/String;") (by simp [Bundle.messageArmAtoms]))
  obtain ⟨tyB, dB, hdB, hdnB⟩ := Cond.laysAt hfound hk hffB (a (.lays cls Bundle.tN "backtrace" "Ljava/lang/Object;") (by simp [Bundle.messageArmAtoms]))
  have bC := Cond.laysApart hdB hdC hdnB hdnC (by rw [hnB, Y.causeName]; decide)
  have bS := Cond.laysApart hdB hdS hdnB hdnS (by rw [hnB, Y.stackName]; decide)
  have bP := Cond.laysApart hdB hdP hdnB hdnP (by rw [hnB, Y.suppName]; decide)
  have hbk : ((preparedCellV T.toThrowableT (freshCell P1.m.cls kX) (W.heap.size + 2) u0 sen).withEntry W.cur).slots[fB.slot]? = some .null := by
    have := fresh_default (c := P1.m.cls) tyB
    rw [htB] at this
    simpa [preparedCellV, Cell.setSlot, Cell.withEntry, Array.getElem?_setIfInBounds, bC, bS, bP, bC.symm, bS.symm, bP.symm, defaultValue] using this
  have tkC := Takes.of_laid (v := .ref (W.heap.size + 2)) hk hord tyC (by rw [Y.causeType]; rfl)
  have tkS := Takes.of_laid (v := u0.v) hk hord tyS (by rw [Y.stackType]; exact fits_refV_array _ u0)
  have tkP := Takes.of_laid (v := sen.v) hk hord tyP (by rw [Y.suppType]; exact fits_refV_object _ sen)
  have tkM := Takes.of_laid (v := .ref (W.heap.size + 1)) hk hord tyM (by rw [Y.msgType]; rfl)
  have hskip : SkipFacts T e.platform s (fun u => u) u0 ((preparedCellV T.toThrowableT (freshCell P1.m.cls kX) (W.heap.size + 2) u0 sen).withEntry W.cur) := ⟨{ ci198 := ci198, i198 := i198, fBack := fB }, ⟨hk198, hg198, ha198, hsB⟩, hbk, fun _ _ => rfl⟩
  have h0 : At W g.method c below := by rw [hg]; exact X.here
  obtain ⟨hbeyond, hfreeW⟩ := X.vmMayThrow hsize (.throwNew cls (some text) none) (fun f hf => by cases hf) rfl hRlocals
  have hfr' : W.frames.length + Ps.length + 4 < (e.platform.stackLimits W.me).1 := by have := X.framesAbove hRframes; omega
  have hwd' : (stackUse (.java g :: W.frames.tail)).2 + 13 * Ps.length + 55 ≤ (e.platform.stackLimits W.me).2 := by have := X.stackAbove hsize (K := 13 * Ps.length + 55) (by omega); omega
  have hslots : W.slotsUsed + (stringBytes (stringToUtf16 text)).size + Zs.kS.instanceTypes.size + kX.instanceTypes.size ≤ e.platform.maxSlots := by
    have := X.slotsAbove hRslots
    rw [hn4, hn6]
    omega
  obtain ⟨vm', hW', st⟩ := Steps.vmThrowsMessageColdByV p (s₀ := s) (S := W) (g := g) h0 hexec T L Z LZ M LM X.warmed (t := W.cur) rfl Zs LZs P1 L1 Ps hL hlink1 hlink hsoe hoom hfound hk hinit hord hctor
    (Launch.admits_hotImplicitExceptions X.admits) hbeyond hfreeW htext hlimit hheap (X.cellsAbove hRcells) hslots (hfitv _) (hfitc _)
    (Nn := fun u => u) heapOnly_id (fun _ _ => rfl) (fun _ => rfl) (fun u x y => setCell_twice _ _ _ _) (fun _ => Nat.le_refl _) (cN := ((preparedCellV T.toThrowableT (freshCell P1.m.cls kX) (W.heap.size + 2) u0 sen).withEntry W.cur))
    hsel0 hcellS hknownS hvU tkS (fun _ hu => hu) (fun _ hu => hu) rfl rfl rfl (by simp [preparedCellV, Cell.setSlot, Cell.withEntry]) hskip (fun _ _ hA hW _ hroom _ hrest => L.nativeOff p htr hA hW hroom hrest) hselF hvSen tkC tkP tkM Y.objLocals rfl hfr' hwd'
  rw [plainBareV_eq T.toThrowableT (W.heap.size + 2) u0 sen (.ref (W.heap.size + 1)) W.cur rfl rfl] at st
  obtain ⟨-, -, w3, w4, -, -, -⟩ := withThrown_facts e.platform W Zs text P1.m.cls kX
  have X3 := ((X.pushed (bytesOf Zs.cB (stringToUtf16 text))).pushed (stringAt Zs.cS Zs.kS Zs.fv Zs.fc (stringToUtf16 text) W.heap.size)).pushed (freshCell P1.m.cls kX)
  rw [← withString_eq] at X3
  have X4 := X3.noted hW'
  have ha : (W.heap.size + 2) < ((withThrown W Zs text P1.m.cls kX).setVm vm').heap.size := by show _ < (withThrown W Zs text P1.m.cls kX).heap.size; rw [w3]; omega
  have hcell : ((withThrown W Zs text P1.m.cls kX).setVm vm').heap[(W.heap.size + 2)]? = some (freshCell P1.m.cls kX) := w4
  have X5 := ((((X4.stored hcell T.fCause.slot (.ref (W.heap.size + 2))).storedAgain ha T.fStack.slot u0.v).storedAgain ha T.fSupp.slot sen.v).storedAgain ha T.fStack.slot u0.v).storedAgain ha T.fMsg.slot (.ref (W.heap.size + 1))
  obtain ⟨g₁, hfrM⟩ := X5.frames_eq
  have hU : ((((withThrown W Zs text P1.m.cls kX).setVm vm').setCell (W.heap.size + 2) (plainBareV T.toThrowableT (freshCell P1.m.cls kX) (W.heap.size + 2) u0 sen (.ref (W.heap.size + 1)))).setTop g).pushFrame (.throwing (W.heap.size + 2)) = (((withThrown W Zs text P1.m.cls kX).setVm vm').setCell (W.heap.size + 2) (plainBareV T.toThrowableT (freshCell P1.m.cls kX) (W.heap.size + 2) u0 sen (.ref (W.heap.size + 1)))).setFrames (.throwing (W.heap.size + 2) :: .java g :: below) := by
    rw [State.pushFrame, State.frames_setTop _ hfrM, State.setTop_of_frames _ hfrM, State.setFrames_setFrames]
  have b1 : (bytesOf Zs.cB (stringToUtf16 text)).slots.size = (stringBytes (stringToUtf16 text)).size := by
    rw [(Cell.writeAll_facts _ _).2.2]; simp [bytes0]
  have b2 : (stringAt Zs.cS Zs.kS Zs.fv Zs.fc (stringToUtf16 text) W.heap.size).slots.size = 4 := by simp [string0, Cell.setSlot, hn4]
  have b3 : (freshCell P1.m.cls kX).slots.size = 6 := by simp [hn6]
  rw [b1, b2, b3] at X5
  have e9 : slots + (stringBytes (stringToUtf16 text)).size + 4 + 6 = slots + ((stringBytes (stringToUtf16 text)).size + 4 + 6) := by omega
  rw [e9] at X5
  simp only [List.append_assoc, List.cons_append, List.nil_append] at X5
  refine ⟨((withThrown W Zs text P1.m.cls kX).setVm vm').setCell (W.heap.size + 2) (plainBareV T.toThrowableT (freshCell P1.m.cls kX) (W.heap.size + 2) u0 sen (.ref (W.heap.size + 1))), W.heap.size + 2, _, fun target ht => st _ (by rw [X.tail, ← hU]; exact ht),
    X5.forget (fun y hy => ?_), heapAt_setCell_self _ ha, hfound, rfl⟩
  simp only [List.mem_cons, List.not_mem_nil, or_false] at hy
  have hge : s.heap.size ≤ W.heap.size := X.same.2.1
  rcases hy with rfl | rfl | rfl | rfl | rfl <;> exact Nat.le_trans hge (Nat.le_add_right _ 2)
set_option maxHeartbeats 1000000 in
/-- the machine throws NullPointerException, no traces kept: from its note over the frame g to 'throwing' over the same frame (follows the proof of Stand.vmThrowsNpe, Shelf42/KT2.lean; throwsNpeColdBareVAt, Shelf42/NT91.lean, called) -/
theorem vx_npeAt {p : Program} {l : Launch} {e : Env} {R : Room} {s : State} {m₀ : MethodId} {args : Array Value} {below : List Frame} {meth : Method} {c : Code} {W : State} {locs : List Loc} {cells slots : Nat}
    (X : Stand p l e R s m₀ args below meth c W locs cells slots) (hexec : p.tables.exec = Jvm.exec) (htr : e.platform.stackTraces = false) {n : Nat}
    (h : ∀ a ∈ Bundle.npeArmAtoms n, a.before args s = true)
    (hlocs : ∀ x ∈ locs, ∀ cell, s.heap[x.base]? = some cell → cell.vm.isStatics = false)
    {g : JFrame} (hg : g.method = m₀) (hsize : g.locals.size = c.maxLocals)
    (hRframes : 7 < R.frames) (hRlocals : 2 * g.monitorRoom + (g.stack.map fun v => v.category).sum + 10240 ≤ R.locals)
    (hRcells : cells + 1 ≤ R.cells) (hRslots : slots + n ≤ R.slots) (hlocks : meth.locks = false) :
    ∃ (S : State) (q : Addr) (ce : Cell), (∀ target, Steps p.tables e below ((S.setTop g).pushFrame (.throwing q)) target → Steps p.tables e below ((W.setTop g).pushFrame (.throwNew "java/lang/NullPointerException" none none)) target) ∧
      Stand p l e R s m₀ args below meth c S locs (cells + 1) (slots + n) ∧ S.heap[q]? = some ce ∧ s.vm.findClass "java/lang/NullPointerException" = some ce.cls ∧ ce.vm = .none := by
  have howns : e.platform.frameOwnsMonitors = true := by rw [X.admits.platform]
  have hfin : e.platform.finalization = false := by rw [X.admits.platform]
  have hpl : e.platform.magicAccessors = ({} : Platform).magicAccessors := by rw [X.admits.platform]
  have hpl2 : e.platform.arrayCloneIsPublic = true := by rw [X.admits.platform]
  have a' : ∀ x, x ∈ Bundle.npeArmAtoms n → x.holds args s none s [] = true := fun x hx => h x hx
  obtain ⟨T, Z, L, LZ, Y⟩ := ThrowableC.of_atoms (args := args) howns hfin hpl (fun x hx => h x (by simp [Bundle.npeArmAtoms, hx]))
  obtain ⟨N, LN, hcN, hnNF, hordN, hffS⟩ := NpeC.of_atoms (args := args) hpl hpl2 L Y (fun x hx => h x (by simp [Bundle.npeArmAtoms, hx]))
  obtain ⟨P1, L1, hP1m, hP1s⟩ := PassC.of_atoms (args := args) (s := s) hpl (X := Bundle.nN) (Y := Bundle.rN) (by decide) (by decide) LibCode.NullPointerException.Init0.at_0 LibCode.NullPointerException.Init0.at_1 LibCode.NullPointerException.Init0.at_4 (fun x hx => h x (by simp [Bundle.npeArmAtoms, hx]))
  obtain ⟨PR, LR, hPRm, hPRs⟩ := PassC.of_atoms (args := args) (s := s) hpl (X := Bundle.rN) (Y := Bundle.eN) (by decide) (by decide) LibCode.RuntimeException.Init0.at_0 LibCode.RuntimeException.Init0.at_1 LibCode.RuntimeException.Init0.at_4 (fun x hx => h x (by simp [Bundle.npeArmAtoms, hx]))
  obtain ⟨PE, LEx, hPEm, hPEs⟩ := PassC.of_atoms (args := args) (s := s) hpl (X := Bundle.eN) (Y := Bundle.tN) (by decide) (by decide) LibCode.Exception.Init0.at_0 LibCode.Exception.Init0.at_1 LibCode.Exception.Init0.at_4 (fun x hx => h x (by simp [Bundle.npeArmAtoms, hx]))
  have hfound : s.vm.findClass Bundle.nN = some P1.m.cls := findClass_of_methodNamed hP1m
  have ecls : N.cN = P1.m.cls := Option.some.inj (hcN.symm.trans hfound)
  have hk : s.vm.classes[P1.m.cls]? = some N.kN := by rw [← ecls]; exact LN.cls
  have hinit := Cond.initialized_spec hfound hk (a' (.initialized Bundle.nN) (by simp [Bundle.npeArmAtoms]))
  have hctor : N.kN.findMethod "<init>" "()V" = some P1.m.idx := findMethod_of_methodNamed hP1m hk
  obtain ⟨c1, k1, hc1, hk1, -, -, -, hn⟩ := Cond.instantiable_spec (a' (.instantiable Bundle.nN n) (by simp [Bundle.npeArmAtoms]))
  cases Option.some.inj (hc1.symm.trans hfound)
  cases Option.some.inj (hk1.symm.trans hk)
  have hfsz : (freshCell P1.m.cls N.kN).slots.size = n := by simp [hn]
  have hlink1 : P1.sup = PR.m := Option.some.inj (hP1s.symm.trans hPRm)
  have hlinkR : PR.sup = PE.m := Option.some.inj (hPRs.symm.trans hPEm)
  have hlinkE : PE.sup = Z.m T.toThrowableT := Option.some.inj (hPEs.symm.trans Y.init0)
  have hLs : ∀ P, P ∈ [PR, PE] → P.Links0 e.platform s := fun P hP => by
    simp only [List.mem_cons, List.not_mem_nil, or_false] at hP
    rcases hP with rfl | rfl
    · exact LR
    · exact LEx
  have hsel0 : selectMethod e.platform s.vm P1.m.cls T.fill0 = .method T.fill0 := by
    obtain ⟨c2, r2, m2, q1, q2, q3, q4, -⟩ := Cond.selects_spec (a' (.selects Bundle.nN Bundle.tFill0 Bundle.tFill0) (by simp [Bundle.npeArmAtoms]))
    cases Option.some.inj (q1.symm.trans hfound)
    cases Option.some.inj (q2.symm.trans (State.methodFound?_of_named Y.fill0 (by decide)))
    cases Option.some.inj (q3.symm.trans Y.fill0)
    rw [Launch.admits_selectMethod X.admits]; exact q4
  have hselF : selectMethod e.platform s.vm P1.m.cls T.fill = .method N.fill := by
    obtain ⟨c2, r2, m2, q1, q2, q3, q4, -⟩ := Cond.selects_spec (a' (.selects Bundle.nN Bundle.tFill Bundle.nFill) (by simp [Bundle.npeArmAtoms]))
    cases Option.some.inj (q1.symm.trans hfound)
    cases Option.some.inj (q2.symm.trans (State.methodFound?_of_named Y.fill (by decide)))
    cases Option.some.inj (q3.symm.trans hnNF)
    rw [Launch.admits_selectMethod X.admits]; exact q4
  obtain ⟨cellS0, hcS0, hiss⟩ := Y.statics
  obtain ⟨u0, hu0⟩ := Cond.staticRefV Y.unassigned L.unassignedStatic L.statics hcS0 hiss (a' (.isRef (.static Bundle.tN "UNASSIGNED_STACK" Bundle.steD)) (by simp [Bundle.npeArmAtoms]))
  obtain ⟨sen, hsen⟩ := Cond.staticRefV Y.sentinel L.sentinelStatic L.statics hcS0 hiss (a' (.isRef (.static Bundle.tN "SUPPRESSED_SENTINEL" Bundle.listD)) (by simp [Bundle.npeArmAtoms]))
  obtain ⟨ci198, i198, fB, hk198, hg198, ha198, hsB, -, hnB, htB, hffB⟩ := Cond.ownField (t := .object "java/lang/Object") Y.found L.cls (by decide +kernel) (a' (.fieldLink Bundle.tN 198 Bundle.tN "backtrace" Bundle.objD) (by simp [Bundle.npeArmAtoms])) (a' (.lays Bundle.tN Bundle.tN "backtrace" Bundle.objD) (by simp [Bundle.npeArmAtoms])) e.platform hpl
  obtain ⟨cellS, hcS', heS, -, hkeep⟩ := X.same.2.2.2.2.2 T.aS cellS0 hcS0
  have hcellS : W.heap[T.aS]? = some cellS := hcS'
  have hout' : ∀ i, (⟨T.aS, i⟩ : Loc) ∉ locs := fun i hmem => by
    have := hlocs _ hmem cellS0 hcS0
    rw [hiss] at this; cases this
  have hknownS : cellS.vm ≠ .unknown := by
    rw [heS]; intro hu
    rw [show cellS0.vm = .unknown from hu] at hiss
    cases hiss
  have hvU : cellS.slots[T.fUnassigned.slot]? = some u0.v := by rw [hkeep _ (hout' _)]; exact hu0
  have hvSen : cellS.slots[T.fSentinel.slot]? = some sen.v := by rw [hkeep _ (hout' _)]; exact hsen
  obtain ⟨tyC, dC, hdC, hdnC⟩ := Cond.laysAt hfound hk Y.cause (a' (.lays Bundle.nN Bundle.tN "cause" "Ljava/lang/Throwable;") (by simp [Bundle.npeArmAtoms]))
  obtain ⟨tyS, dS, hdS, hdnS⟩ := Cond.laysAt hfound hk Y.stack (a' (.lays Bundle.nN Bundle.tN "stackTrace" Bundle.steD) (by simp [Bundle.npeArmAtoms]))
  obtain ⟨tyP, dP, hdP, hdnP⟩ := Cond.laysAt hfound hk Y.supp (a' (.lays Bundle.nN Bundle.tN "suppressedExceptions" Bundle.listD) (by simp [Bundle.npeArmAtoms]))
  obtain ⟨tyX, dX, hdX, hdnX⟩ := Cond.laysAt hfound hk hffS (a' (.lays Bundle.nN Bundle.nN "extendedMessageState" "I") (by simp [Bundle.npeArmAtoms, Bundle.npeAtoms]))
  obtain ⟨hnX, htX⟩ := State.fieldFound?_type hffS (t := .int) (by decide +kernel)
  have xC := Cond.laysApart hdC hdX hdnC hdnX (by rw [hnX, Y.causeName]; decide)
  have xS := Cond.laysApart hdS hdX hdnS hdnX (by rw [hnX, Y.stackName]; decide)
  have xP := Cond.laysApart hdP hdX hdnP hdnX (by rw [hnX, Y.suppName]; decide)
  have hv0 : (freshCell P1.m.cls N.kN).slots[N.fState.slot]? = some (.int 0) := by
    have := fresh_default (c := P1.m.cls) tyX
    rw [htX] at this; exact this
  obtain ⟨tyB, dB, hdB, hdnB⟩ := Cond.laysAt hfound hk hffB (a' (.lays Bundle.nN Bundle.tN "backtrace" Bundle.objD) (by simp [Bundle.npeArmAtoms]))
  have bC := Cond.laysApart hdB hdC hdnB hdnC (by rw [hnB, Y.causeName]; decide)
  have bS := Cond.laysApart hdB hdS hdnB hdnS (by rw [hnB, Y.stackName]; decide)
  have bP := Cond.laysApart hdB hdP hdnB hdnP (by rw [hnB, Y.suppName]; decide)
  have bX := Cond.laysApart hdB hdX hdnB hdnX (by rw [hnB, hnX]; decide)
  have hbk : ((npeCell N.toNpeT (preparedCellV T.toThrowableT (freshCell P1.m.cls N.kN) W.heap.size u0 sen) W.cur).withEntry W.cur).slots[fB.slot]? = some .null := by
    have := fresh_default (c := P1.m.cls) tyB
    rw [htB] at this
    simpa [npeCell, preparedCellV, Cell.setSlot, Cell.withEntry, Array.getElem?_setIfInBounds, bC, bS, bP, bX, bC.symm, bS.symm, bP.symm, bX.symm, defaultValue] using this
  have tkC := Takes.of_laid (v := .ref W.heap.size) hk hordN tyC (by rw [Y.causeType]; rfl)
  have tkS := Takes.of_laid (v := u0.v) hk hordN tyS (by rw [Y.stackType]; exact fits_refV_array _ u0)
  have tkP := Takes.of_laid (v := sen.v) hk hordN tyP (by rw [Y.suppType]; exact fits_refV_object _ sen)
  have tkX := Takes.of_laid (v := .int 1) hk hordN tyX (by rw [htX]; rfl)
  have hskip : SkipFacts T e.platform s (fun u => u) u0 ((npeCell N.toNpeT (preparedCellV T.toThrowableT (freshCell P1.m.cls N.kN) W.heap.size u0 sen) W.cur).withEntry W.cur) := ⟨{ ci198 := ci198, i198 := i198, fBack := fB }, ⟨hk198, hg198, ha198, hsB⟩, hbk, fun _ _ => rfl⟩
  obtain ⟨vm', X3, st, -⟩ := X.throwsNpeColdBareVAt hexec hg hsize T L Z LZ N LN P1 L1 [PR, PE] hLs hlink1 ⟨hlinkR, hlinkE, trivial⟩ hfound hk hinit hordN hctor hsel0 hselF hcellS hknownS hvU hvSen
    hv0 xC xS xP tkC tkS tkP tkX Y.objLocals hskip (fun _ _ hA hW _ hroom _ hrest => L.nativeOff p htr hA hW hroom hrest) (by simpa using hRframes) hRlocals (by simp) hRcells (by rw [hn]; exact hRslots)
  have hlt : W.heap.size < ((W.pushCell (freshCell P1.m.cls N.kN)).setVm vm').heap.size := by
    show W.heap.size < (W.pushCell (freshCell P1.m.cls N.kN)).heap.size
    rw [State.heap_size_pushCell]; omega
  rw [hfsz] at X3
  obtain ⟨g₁, hfrM⟩ := X3.frames_eq
  have hU : ((((W.pushCell (freshCell P1.m.cls N.kN)).setVm vm').setCell W.heap.size (npeBareV T.toThrowableT N.toNpeT (freshCell P1.m.cls N.kN) W.heap.size u0 sen)).setTop g).pushFrame (.throwing W.heap.size) = (((W.pushCell (freshCell P1.m.cls N.kN)).setVm vm').setCell W.heap.size (npeBareV T.toThrowableT N.toNpeT (freshCell P1.m.cls N.kN) W.heap.size u0 sen)).setFrames (.throwing W.heap.size :: .java g :: below) := by
    rw [State.pushFrame, State.frames_setTop _ hfrM, State.setTop_of_frames _ hfrM, State.setFrames_setFrames]
  refine ⟨_, W.heap.size, _, fun target ht => st.trans (by rw [← hU]; exact ht), X3.forget (fun y hy => ?_), heapAt_setCell_self _ hlt, hfound, rfl⟩
  simp only [List.mem_cons, List.not_mem_nil, or_false] at hy
  have hge : s.heap.size ≤ W.heap.size := X.same.2.1
  rcases hy with rfl | rfl | rfl | rfl | rfl <;> exact hge
/-- the words of a machine's NullPointerException, but the four that speak of the heap -/
def vx_atN (n : Nat) : List Cond := (Bundle.npeArmAtoms n).filter vx_no
/-- the words of a machine's throw with a message, but the four that speak of the heap -/
def vx_atM (X : String) (names : List String) : List Cond := (Bundle.messageArmAtoms X names).filter vx_no
section
variable {p : Program} {l : Launch} {e : Env} {R : Room} {s : State} {m : MethodId} {args : Array Value} {below : List Frame} {meth : Method} {c : Code} {H : Heap} {locs : List Loc} {cells slots : Nat}
/-- a frame seen from a rebased start, seen from the first start again -/
theorem vx_back9 {T S : State} {R' : Room} {k n : Nat} (X : Stand p l e R s m args below meth c T locs cells slots) (Y : Stand p l e R' ((T.setVm s.vm).setFrames (.invoking m args :: below)) m args below meth c T [] 0 0) (Z : Stand p l e R' ((T.setVm s.vm).setFrames (.invoking m args :: below)) m args below meth c S [] k n) :
    Stand p l e R s m args below meth c S locs (cells + k) (slots + n) := by
  have hW0 : s.WarmedH ((T.setVm s.vm).setFrames (.invoking m args :: below)).vm := State.WarmedH.refl s
  refine { admits := X.admits, cas := X.cas, clock := X.clock, frames := X.frames, room := X.room, hears := X.hears, method := X.method, code := X.code, here := Z.here, tail := Z.tail, warmed := State.WarmedH.trans hW0 Z.warmed, limits := Z.limits.trans (Y.limits.symm.trans X.limits), bytes := Z.bytes.trans (Y.bytes.symm.trans X.bytes), same := ?_ }
  obtain ⟨e1, e2⟩ := Z.same
  rw [State.setFrames_setFrames] at e1
  have h2 : (T.setVm s.vm).sameButNew (S.setVm s.vm) [] k n := ⟨e1, e2⟩
  have h3 := X.same.trans h2
  rw [List.append_nil] at h3
  exact h3
/-- from the machine's note that E is thrown here with this text -/
def vx_Note (p : Program) (l : Launch) (e : Env) (R : Room) (s : State) (m : MethodId) (args : Array Value) (below : List Frame) (meth : Method) (c : Code) (H : Heap) (locs : List Loc) (cells slots : Nat) (Q : State → Prop) (g : JFrame) (E text : String) : Prop :=
  ∀ T : State, T.heap = H → Stand p l e R s m args below meth c T locs cells slots → ∃ t, Steps p.tables e below ((T.setTop g).pushFrame (.throwNew E (some text) none)) t ∧ Q t
theorem vx_vm {pc : Nat} {ls : Array Slot} {rest : List Value} {Q : State → Prop} (hexec : p.tables.exec = Jvm.exec) (hl : l.stackTraces = false) {cls text : String} {names : List String} {nb : Nat} {A : Nat → Prop}
    (hcls : Bundle.fit cls = true) (hnames : ∀ n ∈ names, Bundle.fit n = true) (hsoe : (cls == "java/lang/StackOverflowError") = false) (hoom : (cls == "java/lang/OutOfMemoryError") = false)
    (hat : ∀ w ∈ vx_atM cls names, w.before args s = true) (hgood : ∀ w ∈ vx_atM cls names, vx_ot w = true)
    (hU : vx_Zq Bundle.tN "UNASSIGNED_STACK" Bundle.steD A s s.heap) (hN : vx_Zq Bundle.tN "SUPPRESSED_SENTINEL" Bundle.listD A s s.heap) (hS : va_S A s.heap H locs) (hsize : ls.size = c.maxLocals)
    (htext : (text == notModelled) = false) (hnb : (stringBytes (stringToUtf16 text)).size ≤ nb) (hnb1 : nb ≤ 1000)
    (hRframes : names.length + 4 < R.frames) (hRlocals : (rest.map fun v => v.category).sum + 10240 ≤ R.locals) (hshort : 13 * names.length + 55 ≤ 10240) (hRcells : cells + 3 ≤ R.cells) (hRslots : slots + (nb + 10) ≤ R.slots) (hlocks : meth.locks = false)
    (k : ∀ (H1 : Heap) (q9 : Addr) (ce : Cell), H.size ≤ H1.size → (∀ q : Nat, q < H.size → H1[q]? = H[q]?) → va_S A s.heap H1 locs → H1[q9]? = some ce → ce.vm = .none → s.vm.findClass cls = some ce.cls → vx_W p l e R s m args below meth c H1 locs (cells + 3) (slots + (nb + 10)) Q (F0 m pc ls rest) q9) :
    vx_Note p l e R s m args below meth c H locs cells slots Q (F0 m pc ls rest) cls text := by
  intro T hT X
  have htr : e.platform.stackTraces = false := (show e.platform.stackTraces = l.stackTraces by rw [X.admits.platform]).trans hl
  have Y := vx_rebase X (R' := { frames := R.frames, locals := R.locals, cells := 3, slots := nb + 10 }) (Nat.le_refl _) (Nat.le_refl _) hRcells hRslots
  have hhp : ((T.setVm s.vm).setFrames (.invoking m args :: below)).heap = H := hT
  have hW0 : s.WarmedH ((T.setVm s.vm).setFrames (.invoking m args :: below)).vm := State.WarmedH.refl s
  have hat' : ∀ w ∈ vx_atM cls names, w.before args ((T.setVm s.vm).setFrames (.invoking m args :: below)) = true := fun w hw => vx_ot_at hW0 rfl (hgood w hw) (hat w hw)
  have hU' : vx_Zq Bundle.tN "UNASSIGNED_STACK" Bundle.steD A ((T.setVm s.vm).setFrames (.invoking m args :: below)) ((T.setVm s.vm).setFrames (.invoking m args :: below)).heap := by rw [hhp]; exact vx_Zq.moved hW0.alike (hU.kept hS.2.1)
  have hN' : vx_Zq Bundle.tN "SUPPRESSED_SENTINEL" Bundle.listD A ((T.setVm s.vm).setFrames (.invoking m args :: below)) ((T.setVm s.vm).setFrames (.invoking m args :: below)).heap := by rw [hhp]; exact vx_Zq.moved hW0.alike (hN.kept hS.2.1)
  obtain ⟨S, q, ce, st, Z, hce, hcl', hv⟩ := vx_vmAt Y hexec htr (cls := cls) (names := names) (text := text) hcls hnames hsoe hoom (vx_own hat' (vx_isRefq hU'.1) (vx_isRefq hN'.1) hU'.2.word hN'.2.word) (fun x hx => nomatch hx) htext
    (by rw [Launch.admits_arrayLengthLimit X.admits]; omega) (by rw [Launch.admits_maxHeapBytes X.admits]; simp only [componentBytes]; omega)
    (g := F0 m pc ls rest) rfl hsize hRframes (by show 2 * 0 + (rest.map fun v => v.category).sum + 10240 ≤ R.locals; omega) hshort (by show 0 + 3 ≤ 3; omega) (by show 0 + (_ + 4 + 6) ≤ nb + 10; omega) hlocks
  obtain ⟨f1, f2⟩ := vx_frame Z.same
  have f1' : H.size ≤ S.heap.size := by rw [← hT]; exact f1
  have f2' : ∀ q : Nat, q < H.size → S.heap[q]? = H[q]? := fun q hq => by
    rw [← hT]
    exact f2 q (by rw [← hT] at hq; exact hq) (fun z hz => nomatch hz)
  have X5 := vx_back9 X Y Z
  have X6 : Stand p l e R s m args below meth c S locs (cells + 3) (slots + (nb + 10)) := { X5 with same := X5.same.mono (by omega) (by omega) }
  obtain ⟨t, a1, b1⟩ := k S.heap q ce f1' f2' ⟨Nat.le_trans hS.1 f1', fun q h1 h2 => (f2' q (Nat.lt_of_lt_of_le h1 hS.1)).trans (hS.2.1 q h1 h2), hS.2.2⟩ hce hv hcl' S rfl X6
  exact ⟨t, st t a1, b1⟩
/-- from the machine's note that NullPointerException is thrown here -/
def vx_NoteN (p : Program) (l : Launch) (e : Env) (R : Room) (s : State) (m : MethodId) (args : Array Value) (below : List Frame) (meth : Method) (c : Code) (H : Heap) (locs : List Loc) (cells slots : Nat) (Q : State → Prop) (g : JFrame) : Prop :=
  ∀ T : State, T.heap = H → Stand p l e R s m args below meth c T locs cells slots → ∃ t, Steps p.tables e below ((T.setTop g).pushFrame (.throwNew "java/lang/NullPointerException" none none)) t ∧ Q t
theorem vx_npe {pc : Nat} {ls : Array Slot} {rest : List Value} {Q : State → Prop} (hexec : p.tables.exec = Jvm.exec) (hl : l.stackTraces = false) {nb : Nat} {A : Nat → Prop}
    (hat : ∀ w ∈ vx_atN nb, w.before args s = true) (hgood : ∀ w ∈ vx_atN nb, vx_ot w = true)
    (hU : vx_Zq Bundle.tN "UNASSIGNED_STACK" Bundle.steD A s s.heap) (hN : vx_Zq Bundle.tN "SUPPRESSED_SENTINEL" Bundle.listD A s s.heap) (hS : va_S A s.heap H locs) (hsize : ls.size = c.maxLocals)
    (hRframes : 7 < R.frames) (hRlocals : (rest.map fun v => v.category).sum + 10240 ≤ R.locals) (hRcells : cells + 1 ≤ R.cells) (hRslots : slots + nb ≤ R.slots) (hlocks : meth.locks = false)
    (k : ∀ (H1 : Heap) (q9 : Addr) (ce : Cell), H.size ≤ H1.size → (∀ q : Nat, q < H.size → H1[q]? = H[q]?) → va_S A s.heap H1 locs → H1[q9]? = some ce → ce.vm = .none → s.vm.findClass "java/lang/NullPointerException" = some ce.cls → vx_W p l e R s m args below meth c H1 locs (cells + 1) (slots + nb) Q (F0 m pc ls rest) q9) :
    vx_NoteN p l e R s m args below meth c H locs cells slots Q (F0 m pc ls rest) := by
  intro T hT X
  have htr : e.platform.stackTraces = false := (show e.platform.stackTraces = l.stackTraces by rw [X.admits.platform]).trans hl
  have Y := vx_rebase X (R' := { frames := R.frames, locals := R.locals, cells := 1, slots := nb }) (Nat.le_refl _) (Nat.le_refl _) hRcells hRslots
  have hhp : ((T.setVm s.vm).setFrames (.invoking m args :: below)).heap = H := hT
  have hW0 : s.WarmedH ((T.setVm s.vm).setFrames (.invoking m args :: below)).vm := State.WarmedH.refl s
  have hat' : ∀ w ∈ vx_atN nb, w.before args ((T.setVm s.vm).setFrames (.invoking m args :: below)) = true := fun w hw => vx_ot_at hW0 rfl (hgood w hw) (hat w hw)
  have hU' : vx_Zq Bundle.tN "UNASSIGNED_STACK" Bundle.steD A ((T.setVm s.vm).setFrames (.invoking m args :: below)) ((T.setVm s.vm).setFrames (.invoking m args :: below)).heap := by rw [hhp]; exact vx_Zq.moved hW0.alike (hU.kept hS.2.1)
  have hN' : vx_Zq Bundle.tN "SUPPRESSED_SENTINEL" Bundle.listD A ((T.setVm s.vm).setFrames (.invoking m args :: below)) ((T.setVm s.vm).setFrames (.invoking m args :: below)).heap := by rw [hhp]; exact vx_Zq.moved hW0.alike (hN.kept hS.2.1)
  obtain ⟨S, q, ce, st, Z, hce, hcl', hv⟩ := vx_npeAt Y hexec htr (n := nb) (vx_own hat' (vx_isRefq hU'.1) (vx_isRefq hN'.1) hU'.2.word hN'.2.word) (fun x hx => nomatch hx)
    (g := F0 m pc ls rest) rfl hsize hRframes (by show 2 * 0 + (rest.map fun v => v.category).sum + 10240 ≤ R.locals; omega) (by show 0 + 1 ≤ 1; omega) (by show 0 + nb ≤ nb; omega) hlocks
  obtain ⟨f1, f2⟩ := vx_frame Z.same
  have f1' : H.size ≤ S.heap.size := by rw [← hT]; exact f1
  have f2' : ∀ q : Nat, q < H.size → S.heap[q]? = H[q]? := fun q hq => by
    rw [← hT]
    exact f2 q (by rw [← hT] at hq; exact hq) (fun z hz => nomatch hz)
  have X5 := vx_back9 X Y Z
  have X6 : Stand p l e R s m args below meth c S locs (cells + 1) (slots + nb) := { X5 with same := X5.same.mono (by omega) (by omega) }
  obtain ⟨t, a1, b1⟩ := k S.heap q ce f1' f2' ⟨Nat.le_trans hS.1 f1', fun q h1 h2 => (f2' q (Nat.lt_of_lt_of_le h1 hS.1)).trans (hS.2.1 q h1 h2), hS.2.2⟩ hce hv hcl' S rfl X6
  exact ⟨t, st t a1, b1⟩
variable {Q : State → Prop} {cc : ByteArray} {pc : Nat} {ls : Array Slot} {rest : List Value}
theorem vx_idivZ (hexec : p.tables.exec = Jvm.exec) (hb : c.code = cc) {a b : Int32} (h0 : b = 0) (d : decode cc pc = .ok (.idiv, 1)) (k : vx_Note p l e R s m args below meth c H locs cells slots Q (F0 m pc ls rest) "java/lang/ArithmeticException" "/ by zero") :
    W p l e R s m args below meth c H locs cells slots Q (F0 m pc ls (.int b :: .int a :: rest)) := by
  intro T hT X
  obtain ⟨t, st, q⟩ := k T hT X
  exact ⟨t, X.idivZero hexec (g := F0 m pc ls (.int b :: .int a :: rest)) rfl (a := a) (rest := rest) (by rw [h0]) (by rw [hb]; exact d) t st, q⟩
theorem vx_iremZ (hexec : p.tables.exec = Jvm.exec) (hb : c.code = cc) {a b : Int32} (h0 : b = 0) (d : decode cc pc = .ok (.irem, 1)) (k : vx_Note p l e R s m args below meth c H locs cells slots Q (F0 m pc ls rest) "java/lang/ArithmeticException" "/ by zero") :
    W p l e R s m args below meth c H locs cells slots Q (F0 m pc ls (.int b :: .int a :: rest)) := by
  intro T hT X
  obtain ⟨t, st, q⟩ := k T hT X
  exact ⟨t, X.iremZero hexec (g := F0 m pc ls (.int b :: .int a :: rest)) rfl (a := a) (rest := rest) (by rw [h0]) (by rw [hb]; exact d) t st, q⟩
theorem vx_ldivZ (hexec : p.tables.exec = Jvm.exec) (hb : c.code = cc) {a b : Int64} (h0 : b = 0) (d : decode cc pc = .ok (.ldiv, 1)) (k : vx_Note p l e R s m args below meth c H locs cells slots Q (F0 m pc ls rest) "java/lang/ArithmeticException" "/ by zero") :
    W p l e R s m args below meth c H locs cells slots Q (F0 m pc ls (.long b :: .long a :: rest)) := by
  intro T hT X
  obtain ⟨t, st, q⟩ := k T hT X
  exact ⟨t, X.ldivZero hexec (g := F0 m pc ls (.long b :: .long a :: rest)) rfl (a := a) (rest := rest) (by rw [h0]) (by rw [hb]; exact d) t st, q⟩
theorem vx_lremZ (hexec : p.tables.exec = Jvm.exec) (hb : c.code = cc) {a b : Int64} (h0 : b = 0) (d : decode cc pc = .ok (.lrem, 1)) (k : vx_Note p l e R s m args below meth c H locs cells slots Q (F0 m pc ls rest) "java/lang/ArithmeticException" "/ by zero") :
    W p l e R s m args below meth c H locs cells slots Q (F0 m pc ls (.long b :: .long a :: rest)) := by
  intro T hT X
  obtain ⟨t, st, q⟩ := k T hT X
  exact ⟨t, X.lremZero hexec (g := F0 m pc ls (.long b :: .long a :: rest)) rfl (a := a) (rest := rest) (by rw [h0]) (by rw [hb]; exact d) t st, q⟩
theorem vx_ialdZ {D : va_G} {cl : List vw_C} {ws : va_W} {tys : List (ClassId × FieldType)} {a : Nat} (hexec : p.tables.exec = Jvm.exec) (hb : c.code = cc) (hK : va_K D cl tys s) (hP : va_P D cl ws H) (q0 t0 : Nat) {cA : ClassId} {n : Nat} {f : Nat → Int32} (ha : ws[q0]? = some (a, .inl (cA, n, .inl f))) (ht : tys[t0]? = some (cA, .int)) {i : Int32} (hout : ¬ vp_in i n) (hdg : decode cc pc = .ok (.iaload, 1))
    (k : ∀ tx : String, tx = (toString "Index " ++ toString i ++ toString " out of bounds for length " ++ toString n : String) → vx_Note p l e R s m args below meth c H locs cells slots Q (F0 m pc ls rest) "java/lang/ArrayIndexOutOfBoundsException" tx) : W p l e R s m args below meth c H locs cells slots Q (F0 m pc ls (.int i :: .ref a :: rest)) := by
  intro T hT X
  obtain ⟨t, st, q⟩ := k _ rfl T hT X
  refine ⟨t, ?_, q⟩
  have h1 := X.ialoadOut hexec (by rw [hT]; exact hP q0 _ ha) ((hK.2 t0 _ ht).1 n (fun j => .int (f j))) (j := i) (by show (i < 0 ∨ (arrV _ _ _).slots.size ≤ _); rw [arrV_size]; exact Classical.byContradiction hout) (g := F0 m pc ls (.int i :: .ref a :: rest)) rfl (rest := rest) rfl (by rw [hb]; exact hdg) t
  simp only [arrV_size] at h1
  exact h1 st
theorem vx_iastZ {D : va_G} {cl : List vw_C} {ws : va_W} {tys : List (ClassId × FieldType)} {a : Nat} (hexec : p.tables.exec = Jvm.exec) (hb : c.code = cc) (hK : va_K D cl tys s) (hP : va_P D cl ws H) (q0 t0 : Nat) {cA : ClassId} {n : Nat} {f : Nat → Int32} (ha : ws[q0]? = some (a, .inl (cA, n, .inl f))) (ht : tys[t0]? = some (cA, .int)) {i : Int32} {x : Int32} (hout : ¬ vp_in i n) (hdg : decode cc pc = .ok (.iastore, 1))
    (k : ∀ tx : String, tx = (toString "Index " ++ toString i ++ toString " out of bounds for length " ++ toString n : String) → vx_Note p l e R s m args below meth c H locs cells slots Q (F0 m pc ls rest) "java/lang/ArrayIndexOutOfBoundsException" tx) : W p l e R s m args below meth c H locs cells slots Q (F0 m pc ls (.int x :: .int i :: .ref a :: rest)) := by
  intro T hT X
  obtain ⟨t, st, q⟩ := k _ rfl T hT X
  refine ⟨t, ?_, q⟩
  have h1 := X.iastoreOut hexec (by rw [hT]; exact hP q0 _ ha) ((hK.2 t0 _ ht).1 n (fun j => .int (f j))) (j := i) (by show (i < 0 ∨ (arrV _ _ _).slots.size ≤ _); rw [arrV_size]; exact Classical.byContradiction hout) (g := F0 m pc ls (.int x :: .int i :: .ref a :: rest)) rfl (rest := rest) rfl (by rw [hb]; exact hdg) t
  simp only [arrV_size] at h1
  exact h1 st
theorem vx_baldZ {D : va_G} {cl : List vw_C} {ws : va_W} {tys : List (ClassId × FieldType)} {a : Nat} (hexec : p.tables.exec = Jvm.exec) (hb : c.code = cc) (hK : va_K D cl tys s) (hP : va_P D cl ws H) (q0 t0 : Nat) {cA : ClassId} {n : Nat} {f : Nat → Int32} (ha : ws[q0]? = some (a, .inl (cA, n, .inl f))) (ht : tys[t0]? = some (cA, .byte)) {i : Int32} (hout : ¬ vp_in i n) (hdg : decode cc pc = .ok (.baload, 1))
    (k : ∀ tx : String, tx = (toString "Index " ++ toString i ++ toString " out of bounds for length " ++ toString n : String) → vx_Note p l e R s m args below meth c H locs cells slots Q (F0 m pc ls rest) "java/lang/ArrayIndexOutOfBoundsException" tx) : W p l e R s m args below meth c H locs cells slots Q (F0 m pc ls (.int i :: .ref a :: rest)) := by
  intro T hT X
  obtain ⟨t, st, q⟩ := k _ rfl T hT X
  refine ⟨t, ?_, q⟩
  have h1 := X.baloadOut hexec (by rw [hT]; exact hP q0 _ ha) ((hK.2 t0 _ ht).1 n (fun j => .int (f j))) (j := i) (by show (i < 0 ∨ (arrV _ _ _).slots.size ≤ _); rw [arrV_size]; exact Classical.byContradiction hout) (g := F0 m pc ls (.int i :: .ref a :: rest)) rfl (rest := rest) rfl (by rw [hb]; exact hdg) t
  simp only [arrV_size] at h1
  exact h1 st
theorem vx_bastZ {D : va_G} {cl : List vw_C} {ws : va_W} {tys : List (ClassId × FieldType)} {a : Nat} (hexec : p.tables.exec = Jvm.exec) (hb : c.code = cc) (hK : va_K D cl tys s) (hP : va_P D cl ws H) (q0 t0 : Nat) {cA : ClassId} {n : Nat} {f : Nat → Int32} (ha : ws[q0]? = some (a, .inl (cA, n, .inl f))) (ht : tys[t0]? = some (cA, .byte)) {i : Int32} {x : Int32} (hout : ¬ vp_in i n) (hdg : decode cc pc = .ok (.bastore, 1))
    (k : ∀ tx : String, tx = (toString "Index " ++ toString i ++ toString " out of bounds for length " ++ toString n : String) → vx_Note p l e R s m args below meth c H locs cells slots Q (F0 m pc ls rest) "java/lang/ArrayIndexOutOfBoundsException" tx) : W p l e R s m args below meth c H locs cells slots Q (F0 m pc ls (.int x :: .int i :: .ref a :: rest)) := by
  intro T hT X
  obtain ⟨t, st, q⟩ := k _ rfl T hT X
  refine ⟨t, ?_, q⟩
  have h1 := X.bastoreOut hexec (by rw [hT]; exact hP q0 _ ha) ((hK.2 t0 _ ht).1 n (fun j => .int (f j))) (j := i) (by show (i < 0 ∨ (arrV _ _ _).slots.size ≤ _); rw [arrV_size]; exact Classical.byContradiction hout) (g := F0 m pc ls (.int x :: .int i :: .ref a :: rest)) rfl (rest := rest) rfl (by rw [hb]; exact hdg) t
  simp only [arrV_size] at h1
  exact h1 st
theorem vx_zaldZ {D : va_G} {cl : List vw_C} {ws : va_W} {tys : List (ClassId × FieldType)} {a : Nat} (hexec : p.tables.exec = Jvm.exec) (hb : c.code = cc) (hK : va_K D cl tys s) (hP : va_P D cl ws H) (q0 t0 : Nat) {cA : ClassId} {n : Nat} {f : Nat → Int32} (ha : ws[q0]? = some (a, .inl (cA, n, .inl f))) (ht : tys[t0]? = some (cA, .boolean)) {i : Int32} (hout : ¬ vp_in i n) (hdg : decode cc pc = .ok (.baload, 1))
    (k : ∀ tx : String, tx = (toString "Index " ++ toString i ++ toString " out of bounds for length " ++ toString n : String) → vx_Note p l e R s m args below meth c H locs cells slots Q (F0 m pc ls rest) "java/lang/ArrayIndexOutOfBoundsException" tx) : W p l e R s m args below meth c H locs cells slots Q (F0 m pc ls (.int i :: .ref a :: rest)) := by
  intro T hT X
  obtain ⟨t, st, q⟩ := k _ rfl T hT X
  refine ⟨t, ?_, q⟩
  have h1 := X.baloadOut hexec (by rw [hT]; exact hP q0 _ ha) ((hK.2 t0 _ ht).1 n (fun j => .int (f j))) (j := i) (by show (i < 0 ∨ (arrV _ _ _).slots.size ≤ _); rw [arrV_size]; exact Classical.byContradiction hout) (g := F0 m pc ls (.int i :: .ref a :: rest)) rfl (rest := rest) rfl (by rw [hb]; exact hdg) t
  simp only [arrV_size] at h1
  exact h1 st
theorem vx_zastZ {D : va_G} {cl : List vw_C} {ws : va_W} {tys : List (ClassId × FieldType)} {a : Nat} (hexec : p.tables.exec = Jvm.exec) (hb : c.code = cc) (hK : va_K D cl tys s) (hP : va_P D cl ws H) (q0 t0 : Nat) {cA : ClassId} {n : Nat} {f : Nat → Int32} (ha : ws[q0]? = some (a, .inl (cA, n, .inl f))) (ht : tys[t0]? = some (cA, .boolean)) {i : Int32} {x : Int32} (hout : ¬ vp_in i n) (hdg : decode cc pc = .ok (.bastore, 1))
    (k : ∀ tx : String, tx = (toString "Index " ++ toString i ++ toString " out of bounds for length " ++ toString n : String) → vx_Note p l e R s m args below meth c H locs cells slots Q (F0 m pc ls rest) "java/lang/ArrayIndexOutOfBoundsException" tx) : W p l e R s m args below meth c H locs cells slots Q (F0 m pc ls (.int x :: .int i :: .ref a :: rest)) := by
  intro T hT X
  obtain ⟨t, st, q⟩ := k _ rfl T hT X
  refine ⟨t, ?_, q⟩
  have h1 := X.bastoreOut hexec (by rw [hT]; exact hP q0 _ ha) ((hK.2 t0 _ ht).1 n (fun j => .int (f j))) (j := i) (by show (i < 0 ∨ (arrV _ _ _).slots.size ≤ _); rw [arrV_size]; exact Classical.byContradiction hout) (g := F0 m pc ls (.int x :: .int i :: .ref a :: rest)) rfl (rest := rest) rfl (by rw [hb]; exact hdg) t
  simp only [arrV_size] at h1
  exact h1 st
theorem vx_caldZ {D : va_G} {cl : List vw_C} {ws : va_W} {tys : List (ClassId × FieldType)} {a : Nat} (hexec : p.tables.exec = Jvm.exec) (hb : c.code = cc) (hK : va_K D cl tys s) (hP : va_P D cl ws H) (q0 t0 : Nat) {cA : ClassId} {n : Nat} {f : Nat → Int32} (ha : ws[q0]? = some (a, .inl (cA, n, .inl f))) (ht : tys[t0]? = some (cA, .char)) {i : Int32} (hout : ¬ vp_in i n) (hdg : decode cc pc = .ok (.caload, 1))
    (k : ∀ tx : String, tx = (toString "Index " ++ toString i ++ toString " out of bounds for length " ++ toString n : String) → vx_Note p l e R s m args below meth c H locs cells slots Q (F0 m pc ls rest) "java/lang/ArrayIndexOutOfBoundsException" tx) : W p l e R s m args below meth c H locs cells slots Q (F0 m pc ls (.int i :: .ref a :: rest)) := by
  intro T hT X
  obtain ⟨t, st, q⟩ := k _ rfl T hT X
  refine ⟨t, ?_, q⟩
  have h1 := X.caloadOut hexec (by rw [hT]; exact hP q0 _ ha) ((hK.2 t0 _ ht).1 n (fun j => .int (f j))) (j := i) (by show (i < 0 ∨ (arrV _ _ _).slots.size ≤ _); rw [arrV_size]; exact Classical.byContradiction hout) (g := F0 m pc ls (.int i :: .ref a :: rest)) rfl (rest := rest) rfl (by rw [hb]; exact hdg) t
  simp only [arrV_size] at h1
  exact h1 st
theorem vx_castZ {D : va_G} {cl : List vw_C} {ws : va_W} {tys : List (ClassId × FieldType)} {a : Nat} (hexec : p.tables.exec = Jvm.exec) (hb : c.code = cc) (hK : va_K D cl tys s) (hP : va_P D cl ws H) (q0 t0 : Nat) {cA : ClassId} {n : Nat} {f : Nat → Int32} (ha : ws[q0]? = some (a, .inl (cA, n, .inl f))) (ht : tys[t0]? = some (cA, .char)) {i : Int32} {x : Int32} (hout : ¬ vp_in i n) (hdg : decode cc pc = .ok (.castore, 1))
    (k : ∀ tx : String, tx = (toString "Index " ++ toString i ++ toString " out of bounds for length " ++ toString n : String) → vx_Note p l e R s m args below meth c H locs cells slots Q (F0 m pc ls rest) "java/lang/ArrayIndexOutOfBoundsException" tx) : W p l e R s m args below meth c H locs cells slots Q (F0 m pc ls (.int x :: .int i :: .ref a :: rest)) := by
  intro T hT X
  obtain ⟨t, st, q⟩ := k _ rfl T hT X
  refine ⟨t, ?_, q⟩
  have h1 := X.castoreOut hexec (by rw [hT]; exact hP q0 _ ha) ((hK.2 t0 _ ht).1 n (fun j => .int (f j))) (j := i) (by show (i < 0 ∨ (arrV _ _ _).slots.size ≤ _); rw [arrV_size]; exact Classical.byContradiction hout) (g := F0 m pc ls (.int x :: .int i :: .ref a :: rest)) rfl (rest := rest) rfl (by rw [hb]; exact hdg) t
  simp only [arrV_size] at h1
  exact h1 st
theorem vx_saldZ {D : va_G} {cl : List vw_C} {ws : va_W} {tys : List (ClassId × FieldType)} {a : Nat} (hexec : p.tables.exec = Jvm.exec) (hb : c.code = cc) (hK : va_K D cl tys s) (hP : va_P D cl ws H) (q0 t0 : Nat) {cA : ClassId} {n : Nat} {f : Nat → Int32} (ha : ws[q0]? = some (a, .inl (cA, n, .inl f))) (ht : tys[t0]? = some (cA, .short)) {i : Int32} (hout : ¬ vp_in i n) (hdg : decode cc pc = .ok (.saload, 1))
    (k : ∀ tx : String, tx = (toString "Index " ++ toString i ++ toString " out of bounds for length " ++ toString n : String) → vx_Note p l e R s m args below meth c H locs cells slots Q (F0 m pc ls rest) "java/lang/ArrayIndexOutOfBoundsException" tx) : W p l e R s m args below meth c H locs cells slots Q (F0 m pc ls (.int i :: .ref a :: rest)) := by
  intro T hT X
  obtain ⟨t, st, q⟩ := k _ rfl T hT X
  refine ⟨t, ?_, q⟩
  have h1 := X.saloadOut hexec (by rw [hT]; exact hP q0 _ ha) ((hK.2 t0 _ ht).1 n (fun j => .int (f j))) (j := i) (by show (i < 0 ∨ (arrV _ _ _).slots.size ≤ _); rw [arrV_size]; exact Classical.byContradiction hout) (g := F0 m pc ls (.int i :: .ref a :: rest)) rfl (rest := rest) rfl (by rw [hb]; exact hdg) t
  simp only [arrV_size] at h1
  exact h1 st
theorem vx_sastZ {D : va_G} {cl : List vw_C} {ws : va_W} {tys : List (ClassId × FieldType)} {a : Nat} (hexec : p.tables.exec = Jvm.exec) (hb : c.code = cc) (hK : va_K D cl tys s) (hP : va_P D cl ws H) (q0 t0 : Nat) {cA : ClassId} {n : Nat} {f : Nat → Int32} (ha : ws[q0]? = some (a, .inl (cA, n, .inl f))) (ht : tys[t0]? = some (cA, .short)) {i : Int32} {x : Int32} (hout : ¬ vp_in i n) (hdg : decode cc pc = .ok (.sastore, 1))
    (k : ∀ tx : String, tx = (toString "Index " ++ toString i ++ toString " out of bounds for length " ++ toString n : String) → vx_Note p l e R s m args below meth c H locs cells slots Q (F0 m pc ls rest) "java/lang/ArrayIndexOutOfBoundsException" tx) : W p l e R s m args below meth c H locs cells slots Q (F0 m pc ls (.int x :: .int i :: .ref a :: rest)) := by
  intro T hT X
  obtain ⟨t, st, q⟩ := k _ rfl T hT X
  refine ⟨t, ?_, q⟩
  have h1 := X.sastoreOut hexec (by rw [hT]; exact hP q0 _ ha) ((hK.2 t0 _ ht).1 n (fun j => .int (f j))) (j := i) (by show (i < 0 ∨ (arrV _ _ _).slots.size ≤ _); rw [arrV_size]; exact Classical.byContradiction hout) (g := F0 m pc ls (.int x :: .int i :: .ref a :: rest)) rfl (rest := rest) rfl (by rw [hb]; exact hdg) t
  simp only [arrV_size] at h1
  exact h1 st
theorem vx_laldZ {D : va_G} {cl : List vw_C} {ws : va_W} {tys : List (ClassId × FieldType)} {a : Nat} (hexec : p.tables.exec = Jvm.exec) (hb : c.code = cc) (hK : va_K D cl tys s) (hP : va_P D cl ws H) (q0 t0 : Nat) {cA : ClassId} {n : Nat} {f : Nat → Int64} (ha : ws[q0]? = some (a, .inl (cA, n, .inr (.inl f)))) (ht : tys[t0]? = some (cA, .long)) {i : Int32} (hout : ¬ vp_in i n) (hdg : decode cc pc = .ok (.laload, 1))
    (k : ∀ tx : String, tx = (toString "Index " ++ toString i ++ toString " out of bounds for length " ++ toString n : String) → vx_Note p l e R s m args below meth c H locs cells slots Q (F0 m pc ls rest) "java/lang/ArrayIndexOutOfBoundsException" tx) : W p l e R s m args below meth c H locs cells slots Q (F0 m pc ls (.int i :: .ref a :: rest)) := by
  intro T hT X
  obtain ⟨t, st, q⟩ := k _ rfl T hT X
  refine ⟨t, ?_, q⟩
  have h1 := X.laloadOut hexec (by rw [hT]; exact hP q0 _ ha) ((hK.2 t0 _ ht).1 n (fun j => .long (f j))) (j := i) (by show (i < 0 ∨ (arrV _ _ _).slots.size ≤ _); rw [arrV_size]; exact Classical.byContradiction hout) (g := F0 m pc ls (.int i :: .ref a :: rest)) rfl (rest := rest) rfl (by rw [hb]; exact hdg) t
  simp only [arrV_size] at h1
  exact h1 st
theorem vx_lastZ {D : va_G} {cl : List vw_C} {ws : va_W} {tys : List (ClassId × FieldType)} {a : Nat} (hexec : p.tables.exec = Jvm.exec) (hb : c.code = cc) (hK : va_K D cl tys s) (hP : va_P D cl ws H) (q0 t0 : Nat) {cA : ClassId} {n : Nat} {f : Nat → Int64} (ha : ws[q0]? = some (a, .inl (cA, n, .inr (.inl f)))) (ht : tys[t0]? = some (cA, .long)) {i : Int32} {x : Int64} (hout : ¬ vp_in i n) (hdg : decode cc pc = .ok (.lastore, 1))
    (k : ∀ tx : String, tx = (toString "Index " ++ toString i ++ toString " out of bounds for length " ++ toString n : String) → vx_Note p l e R s m args below meth c H locs cells slots Q (F0 m pc ls rest) "java/lang/ArrayIndexOutOfBoundsException" tx) : W p l e R s m args below meth c H locs cells slots Q (F0 m pc ls (.long x :: .int i :: .ref a :: rest)) := by
  intro T hT X
  obtain ⟨t, st, q⟩ := k _ rfl T hT X
  refine ⟨t, ?_, q⟩
  have h1 := X.lastoreOut hexec (by rw [hT]; exact hP q0 _ ha) ((hK.2 t0 _ ht).1 n (fun j => .long (f j))) (j := i) (by show (i < 0 ∨ (arrV _ _ _).slots.size ≤ _); rw [arrV_size]; exact Classical.byContradiction hout) (g := F0 m pc ls (.long x :: .int i :: .ref a :: rest)) rfl (rest := rest) rfl (by rw [hb]; exact hdg) t
  simp only [arrV_size] at h1
  exact h1 st
theorem vx_faldZ {D : va_G} {cl : List vw_C} {ws : va_W} {tys : List (ClassId × FieldType)} {a : Nat} (hexec : p.tables.exec = Jvm.exec) (hb : c.code = cc) (hK : va_K D cl tys s) (hP : va_P D cl ws H) (q0 t0 : Nat) {cA : ClassId} {n : Nat} {f : Nat → UInt32} (ha : ws[q0]? = some (a, .inl (cA, n, .inr (.inr (.inl f))))) (ht : tys[t0]? = some (cA, .float)) {i : Int32} (hout : ¬ vp_in i n) (hdg : decode cc pc = .ok (.faload, 1))
    (k : ∀ tx : String, tx = (toString "Index " ++ toString i ++ toString " out of bounds for length " ++ toString n : String) → vx_Note p l e R s m args below meth c H locs cells slots Q (F0 m pc ls rest) "java/lang/ArrayIndexOutOfBoundsException" tx) : W p l e R s m args below meth c H locs cells slots Q (F0 m pc ls (.int i :: .ref a :: rest)) := by
  intro T hT X
  obtain ⟨t, st, q⟩ := k _ rfl T hT X
  refine ⟨t, ?_, q⟩
  have h1 := X.faloadOut hexec (by rw [hT]; exact hP q0 _ ha) ((hK.2 t0 _ ht).1 n (fun j => .float (f j))) (j := i) (by show (i < 0 ∨ (arrV _ _ _).slots.size ≤ _); rw [arrV_size]; exact Classical.byContradiction hout) (g := F0 m pc ls (.int i :: .ref a :: rest)) rfl (rest := rest) rfl (by rw [hb]; exact hdg) t
  simp only [arrV_size] at h1
  exact h1 st
theorem vx_fastZ {D : va_G} {cl : List vw_C} {ws : va_W} {tys : List (ClassId × FieldType)} {a : Nat} (hexec : p.tables.exec = Jvm.exec) (hb : c.code = cc) (hK : va_K D cl tys s) (hP : va_P D cl ws H) (q0 t0 : Nat) {cA : ClassId} {n : Nat} {f : Nat → UInt32} (ha : ws[q0]? = some (a, .inl (cA, n, .inr (.inr (.inl f))))) (ht : tys[t0]? = some (cA, .float)) {i : Int32} {x : UInt32} (hout : ¬ vp_in i n) (hdg : decode cc pc = .ok (.fastore, 1))
    (k : ∀ tx : String, tx = (toString "Index " ++ toString i ++ toString " out of bounds for length " ++ toString n : String) → vx_Note p l e R s m args below meth c H locs cells slots Q (F0 m pc ls rest) "java/lang/ArrayIndexOutOfBoundsException" tx) : W p l e R s m args below meth c H locs cells slots Q (F0 m pc ls (.float x :: .int i :: .ref a :: rest)) := by
  intro T hT X
  obtain ⟨t, st, q⟩ := k _ rfl T hT X
  refine ⟨t, ?_, q⟩
  have h1 := X.fastoreOut hexec (by rw [hT]; exact hP q0 _ ha) ((hK.2 t0 _ ht).1 n (fun j => .float (f j))) (j := i) (by show (i < 0 ∨ (arrV _ _ _).slots.size ≤ _); rw [arrV_size]; exact Classical.byContradiction hout) (g := F0 m pc ls (.float x :: .int i :: .ref a :: rest)) rfl (rest := rest) rfl (by rw [hb]; exact hdg) t
  simp only [arrV_size] at h1
  exact h1 st
theorem vx_daldZ {D : va_G} {cl : List vw_C} {ws : va_W} {tys : List (ClassId × FieldType)} {a : Nat} (hexec : p.tables.exec = Jvm.exec) (hb : c.code = cc) (hK : va_K D cl tys s) (hP : va_P D cl ws H) (q0 t0 : Nat) {cA : ClassId} {n : Nat} {f : Nat → UInt64} (ha : ws[q0]? = some (a, .inl (cA, n, .inr (.inr (.inr (.inl f)))))) (ht : tys[t0]? = some (cA, .double)) {i : Int32} (hout : ¬ vp_in i n) (hdg : decode cc pc = .ok (.daload, 1))
    (k : ∀ tx : String, tx = (toString "Index " ++ toString i ++ toString " out of bounds for length " ++ toString n : String) → vx_Note p l e R s m args below meth c H locs cells slots Q (F0 m pc ls rest) "java/lang/ArrayIndexOutOfBoundsException" tx) : W p l e R s m args below meth c H locs cells slots Q (F0 m pc ls (.int i :: .ref a :: rest)) := by
  intro T hT X
  obtain ⟨t, st, q⟩ := k _ rfl T hT X
  refine ⟨t, ?_, q⟩
  have h1 := X.daloadOut hexec (by rw [hT]; exact hP q0 _ ha) ((hK.2 t0 _ ht).1 n (fun j => .double (f j))) (j := i) (by show (i < 0 ∨ (arrV _ _ _).slots.size ≤ _); rw [arrV_size]; exact Classical.byContradiction hout) (g := F0 m pc ls (.int i :: .ref a :: rest)) rfl (rest := rest) rfl (by rw [hb]; exact hdg) t
  simp only [arrV_size] at h1
  exact h1 st
theorem vx_dastZ {D : va_G} {cl : List vw_C} {ws : va_W} {tys : List (ClassId × FieldType)} {a : Nat} (hexec : p.tables.exec = Jvm.exec) (hb : c.code = cc) (hK : va_K D cl tys s) (hP : va_P D cl ws H) (q0 t0 : Nat) {cA : ClassId} {n : Nat} {f : Nat → UInt64} (ha : ws[q0]? = some (a, .inl (cA, n, .inr (.inr (.inr (.inl f)))))) (ht : tys[t0]? = some (cA, .double)) {i : Int32} {x : UInt64} (hout : ¬ vp_in i n) (hdg : decode cc pc = .ok (.dastore, 1))
    (k : ∀ tx : String, tx = (toString "Index " ++ toString i ++ toString " out of bounds for length " ++ toString n : String) → vx_Note p l e R s m args below meth c H locs cells slots Q (F0 m pc ls rest) "java/lang/ArrayIndexOutOfBoundsException" tx) : W p l e R s m args below meth c H locs cells slots Q (F0 m pc ls (.double x :: .int i :: .ref a :: rest)) := by
  intro T hT X
  obtain ⟨t, st, q⟩ := k _ rfl T hT X
  refine ⟨t, ?_, q⟩
  have h1 := X.dastoreOut hexec (by rw [hT]; exact hP q0 _ ha) ((hK.2 t0 _ ht).1 n (fun j => .double (f j))) (j := i) (by show (i < 0 ∨ (arrV _ _ _).slots.size ≤ _); rw [arrV_size]; exact Classical.byContradiction hout) (g := F0 m pc ls (.double x :: .int i :: .ref a :: rest)) rfl (rest := rest) rfl (by rw [hb]; exact hdg) t
  simp only [arrV_size] at h1
  exact h1 st
theorem vx_arraylengthN (hexec : p.tables.exec = Jvm.exec) (hb : c.code = cc) (hdg : decode cc pc = .ok (.arraylength, 1)) (k : vx_NoteN p l e R s m args below meth c H locs cells slots Q (F0 m pc ls rest)) : W p l e R s m args below meth c H locs cells slots Q (F0 m pc ls (.null :: rest)) := by
  intro T hT X
  obtain ⟨t, st, q⟩ := k T hT X
  exact ⟨t, X.arraylengthNull hexec (g := F0 m pc ls (.null :: rest)) rfl (rest := rest) rfl (by rw [hb]; exact hdg) t st, q⟩
theorem vx_ialoadN (hexec : p.tables.exec = Jvm.exec) (hb : c.code = cc) {i : Int32} (hdg : decode cc pc = .ok (.iaload, 1)) (k : vx_NoteN p l e R s m args below meth c H locs cells slots Q (F0 m pc ls rest)) : W p l e R s m args below meth c H locs cells slots Q (F0 m pc ls (.int i :: .null :: rest)) := by
  intro T hT X
  obtain ⟨t, st, q⟩ := k T hT X
  exact ⟨t, X.ialoadNull hexec (g := F0 m pc ls (.int i :: .null :: rest)) rfl (rest := rest) rfl (by rw [hb]; exact hdg) t st, q⟩
theorem vx_laloadN (hexec : p.tables.exec = Jvm.exec) (hb : c.code = cc) {i : Int32} (hdg : decode cc pc = .ok (.laload, 1)) (k : vx_NoteN p l e R s m args below meth c H locs cells slots Q (F0 m pc ls rest)) : W p l e R s m args below meth c H locs cells slots Q (F0 m pc ls (.int i :: .null :: rest)) := by
  intro T hT X
  obtain ⟨t, st, q⟩ := k T hT X
  exact ⟨t, X.laloadNull hexec (g := F0 m pc ls (.int i :: .null :: rest)) rfl (rest := rest) rfl (by rw [hb]; exact hdg) t st, q⟩
theorem vx_faloadN (hexec : p.tables.exec = Jvm.exec) (hb : c.code = cc) {i : Int32} (hdg : decode cc pc = .ok (.faload, 1)) (k : vx_NoteN p l e R s m args below meth c H locs cells slots Q (F0 m pc ls rest)) : W p l e R s m args below meth c H locs cells slots Q (F0 m pc ls (.int i :: .null :: rest)) := by
  intro T hT X
  obtain ⟨t, st, q⟩ := k T hT X
  exact ⟨t, X.faloadNull hexec (g := F0 m pc ls (.int i :: .null :: rest)) rfl (rest := rest) rfl (by rw [hb]; exact hdg) t st, q⟩
theorem vx_daloadN (hexec : p.tables.exec = Jvm.exec) (hb : c.code = cc) {i : Int32} (hdg : decode cc pc = .ok (.daload, 1)) (k : vx_NoteN p l e R s m args below meth c H locs cells slots Q (F0 m pc ls rest)) : W p l e R s m args below meth c H locs cells slots Q (F0 m pc ls (.int i :: .null :: rest)) := by
  intro T hT X
  obtain ⟨t, st, q⟩ := k T hT X
  exact ⟨t, X.daloadNull hexec (g := F0 m pc ls (.int i :: .null :: rest)) rfl (rest := rest) rfl (by rw [hb]; exact hdg) t st, q⟩
theorem vx_aaloadN (hexec : p.tables.exec = Jvm.exec) (hb : c.code = cc) {i : Int32} (hdg : decode cc pc = .ok (.aaload, 1)) (k : vx_NoteN p l e R s m args below meth c H locs cells slots Q (F0 m pc ls rest)) : W p l e R s m args below meth c H locs cells slots Q (F0 m pc ls (.int i :: .null :: rest)) := by
  intro T hT X
  obtain ⟨t, st, q⟩ := k T hT X
  exact ⟨t, X.aaloadNull hexec (g := F0 m pc ls (.int i :: .null :: rest)) rfl (rest := rest) rfl (by rw [hb]; exact hdg) t st, q⟩
theorem vx_baloadN (hexec : p.tables.exec = Jvm.exec) (hb : c.code = cc) {i : Int32} (hdg : decode cc pc = .ok (.baload, 1)) (k : vx_NoteN p l e R s m args below meth c H locs cells slots Q (F0 m pc ls rest)) : W p l e R s m args below meth c H locs cells slots Q (F0 m pc ls (.int i :: .null :: rest)) := by
  intro T hT X
  obtain ⟨t, st, q⟩ := k T hT X
  exact ⟨t, X.baloadNull hexec (g := F0 m pc ls (.int i :: .null :: rest)) rfl (rest := rest) rfl (by rw [hb]; exact hdg) t st, q⟩
theorem vx_caloadN (hexec : p.tables.exec = Jvm.exec) (hb : c.code = cc) {i : Int32} (hdg : decode cc pc = .ok (.caload, 1)) (k : vx_NoteN p l e R s m args below meth c H locs cells slots Q (F0 m pc ls rest)) : W p l e R s m args below meth c H locs cells slots Q (F0 m pc ls (.int i :: .null :: rest)) := by
  intro T hT X
  obtain ⟨t, st, q⟩ := k T hT X
  exact ⟨t, X.caloadNull hexec (g := F0 m pc ls (.int i :: .null :: rest)) rfl (rest := rest) rfl (by rw [hb]; exact hdg) t st, q⟩
theorem vx_saloadN (hexec : p.tables.exec = Jvm.exec) (hb : c.code = cc) {i : Int32} (hdg : decode cc pc = .ok (.saload, 1)) (k : vx_NoteN p l e R s m args below meth c H locs cells slots Q (F0 m pc ls rest)) : W p l e R s m args below meth c H locs cells slots Q (F0 m pc ls (.int i :: .null :: rest)) := by
  intro T hT X
  obtain ⟨t, st, q⟩ := k T hT X
  exact ⟨t, X.saloadNull hexec (g := F0 m pc ls (.int i :: .null :: rest)) rfl (rest := rest) rfl (by rw [hb]; exact hdg) t st, q⟩
theorem vx_iastoreN (hexec : p.tables.exec = Jvm.exec) (hb : c.code = cc) {x : Int32} {i : Int32} (hdg : decode cc pc = .ok (.iastore, 1)) (k : vx_NoteN p l e R s m args below meth c H locs cells slots Q (F0 m pc ls rest)) : W p l e R s m args below meth c H locs cells slots Q (F0 m pc ls (.int x :: .int i :: .null :: rest)) := by
  intro T hT X
  obtain ⟨t, st, q⟩ := k T hT X
  exact ⟨t, X.iastoreNull hexec (g := F0 m pc ls (.int x :: .int i :: .null :: rest)) rfl (rest := rest) rfl (by rw [hb]; exact hdg) t st, q⟩
theorem vx_lastoreN (hexec : p.tables.exec = Jvm.exec) (hb : c.code = cc) {x : Int64} {i : Int32} (hdg : decode cc pc = .ok (.lastore, 1)) (k : vx_NoteN p l e R s m args below meth c H locs cells slots Q (F0 m pc ls rest)) : W p l e R s m args below meth c H locs cells slots Q (F0 m pc ls (.long x :: .int i :: .null :: rest)) := by
  intro T hT X
  obtain ⟨t, st, q⟩ := k T hT X
  exact ⟨t, X.lastoreNull hexec (g := F0 m pc ls (.long x :: .int i :: .null :: rest)) rfl (rest := rest) rfl (by rw [hb]; exact hdg) t st, q⟩
theorem vx_fastoreN (hexec : p.tables.exec = Jvm.exec) (hb : c.code = cc) {x : UInt32} {i : Int32} (hdg : decode cc pc = .ok (.fastore, 1)) (k : vx_NoteN p l e R s m args below meth c H locs cells slots Q (F0 m pc ls rest)) : W p l e R s m args below meth c H locs cells slots Q (F0 m pc ls (.float x :: .int i :: .null :: rest)) := by
  intro T hT X
  obtain ⟨t, st, q⟩ := k T hT X
  exact ⟨t, X.fastoreNull hexec (g := F0 m pc ls (.float x :: .int i :: .null :: rest)) rfl (rest := rest) rfl (by rw [hb]; exact hdg) t st, q⟩
theorem vx_dastoreN (hexec : p.tables.exec = Jvm.exec) (hb : c.code = cc) {x : UInt64} {i : Int32} (hdg : decode cc pc = .ok (.dastore, 1)) (k : vx_NoteN p l e R s m args below meth c H locs cells slots Q (F0 m pc ls rest)) : W p l e R s m args below meth c H locs cells slots Q (F0 m pc ls (.double x :: .int i :: .null :: rest)) := by
  intro T hT X
  obtain ⟨t, st, q⟩ := k T hT X
  exact ⟨t, X.dastoreNull hexec (g := F0 m pc ls (.double x :: .int i :: .null :: rest)) rfl (rest := rest) rfl (by rw [hb]; exact hdg) t st, q⟩
theorem vx_bastoreN (hexec : p.tables.exec = Jvm.exec) (hb : c.code = cc) {x : Int32} {i : Int32} (hdg : decode cc pc = .ok (.bastore, 1)) (k : vx_NoteN p l e R s m args below meth c H locs cells slots Q (F0 m pc ls rest)) : W p l e R s m args below meth c H locs cells slots Q (F0 m pc ls (.int x :: .int i :: .null :: rest)) := by
  intro T hT X
  obtain ⟨t, st, q⟩ := k T hT X
  exact ⟨t, X.bastoreNull hexec (g := F0 m pc ls (.int x :: .int i :: .null :: rest)) rfl (rest := rest) rfl (by rw [hb]; exact hdg) t st, q⟩
theorem vx_castoreN (hexec : p.tables.exec = Jvm.exec) (hb : c.code = cc) {x : Int32} {i : Int32} (hdg : decode cc pc = .ok (.castore, 1)) (k : vx_NoteN p l e R s m args below meth c H locs cells slots Q (F0 m pc ls rest)) : W p l e R s m args below meth c H locs cells slots Q (F0 m pc ls (.int x :: .int i :: .null :: rest)) := by
  intro T hT X
  obtain ⟨t, st, q⟩ := k T hT X
  exact ⟨t, X.castoreNull hexec (g := F0 m pc ls (.int x :: .int i :: .null :: rest)) rfl (rest := rest) rfl (by rw [hb]; exact hdg) t st, q⟩
theorem vx_sastoreN (hexec : p.tables.exec = Jvm.exec) (hb : c.code = cc) {x : Int32} {i : Int32} (hdg : decode cc pc = .ok (.sastore, 1)) (k : vx_NoteN p l e R s m args below meth c H locs cells slots Q (F0 m pc ls rest)) : W p l e R s m args below meth c H locs cells slots Q (F0 m pc ls (.int x :: .int i :: .null :: rest)) := by
  intro T hT X
  obtain ⟨t, st, q⟩ := k T hT X
  exact ⟨t, X.sastoreNull hexec (g := F0 m pc ls (.int x :: .int i :: .null :: rest)) rfl (rest := rest) rfl (by rw [hb]; exact hdg) t st, q⟩
theorem vx_invokeN {own C : String} {index maxL : Nat} {y : MethodName} {bytes : ByteArray} {ret : Option FieldType} (hexec : p.tables.exec = Jvm.exec) (hb : c.code = cc) (hown : s.vm.findClass own = some m.cls) (hlink : (Cond.methodLink own index y).before args s = true) (hinst : (Cond.instanceMethod y).before args s = true) (hcode : (Cond.code y bytes maxL ret).before args s = true) (hsel : (Cond.selects C y y).before args s = true)
    (hx : y.cls ≠ "java/lang/invoke/MethodHandle" ∧ y.cls ≠ "java/lang/invoke/VarHandle") {As : List Value} (hlen : (parseMethodDescriptor y.desc).map (fun d => d.parameters.length) = some As.length) (hdg : decode cc pc = .ok (.invokevirtual index, 3))
    (k : vx_NoteN p l e R s m args below meth c H locs cells slots Q (F0 m pc ls rest)) {st0 : List Value} (hst : st0 = As.reverse ++ .null :: rest) : W p l e R s m args below meth c H locs cells slots Q (F0 m pc ls st0) := by
  intro T hT X
  obtain ⟨r0, r, hn, hrm, hstR, hsigR⟩ := va_Decl.of hinst hcode
  obtain ⟨c2, r2, m2, q1, q2, q3, q4, kP, hkP, hkPi⟩ := Cond.selects_spec hsel
  cases hn.symm.trans q3
  have hl9 : As.length = r.sig.parameters.length := by
    rw [hsigR] at hlen
    exact (Option.some.inj hlen).symm
  obtain ⟨vm', X1, st1⟩ := X.invokevirtualNull hexec hown hlink hn hrm hstR hkP hkPi hx (g := F0 m pc ls st0) rfl (argsL := As) (rest := rest) hl9 hst (by rw [hb]; exact hdg)
  obtain ⟨t, st, q⟩ := k (T.setVm vm') hT X1
  exact ⟨t, st1 t st, q⟩
theorem vx_newarrayZ {atype : ArrayType} (hexec : p.tables.exec = Jvm.exec) (hb : c.code = cc) {n : Int32} (h0 : n < 0) (hdg : decode cc pc = .ok (.newarray atype, 2)) (k : ∀ tx : String, tx = toString n → vx_Note p l e R s m args below meth c H locs cells slots Q (F0 m pc ls rest) "java/lang/NegativeArraySizeException" tx) : W p l e R s m args below meth c H locs cells slots Q (F0 m pc ls (.int n :: rest)) := by
  intro T hT X
  obtain ⟨t, st, q⟩ := k _ rfl T hT X
  exact ⟨t, X.newarrayNegative hexec (g := F0 m pc ls (.int n :: rest)) rfl h0 (rest := rest) rfl (by rw [hb]; exact hdg) t st, q⟩
end
end VXM
/-! ===== END ===== -/

/-! ===== BEGIN printed: names, fields, word lists, decode rows ===== -/
def RX0 : String := "SeriesFund$Book"
def TX0 : u_T := fun k => match k with
  | 0 => ("SeriesFund$Book", "investors", "I", false)
  | 1 => ("SeriesFund$Book", "method", "I", false)
  | 2 => ("SeriesFund$Book", "managementRate", "I", false)
  | 3 => ("SeriesFund$Book", "performanceFee", "I", false)
  | 4 => ("SeriesFund$Book", "gate", "I", false)
  | 5 => ("SeriesFund$Book", "day", "I", false)
  | 6 => ("SeriesFund$Book", "opened", "I", false)
  | 7 => ("SeriesFund$Book", "seriesCount", "I", false)
  | 8 => ("SeriesFund$Book", "lotCount", "I", false)
  | 9 => ("SeriesFund$Book", "requestCount", "I", false)
  | 10 => ("SeriesFund$Book", "accounts", "[J", true)
  | 11 => ("SeriesFund$Book", "series", "[LSeriesFund$Series;", true)
  | 12 => ("SeriesFund$Book", "lots", "[LSeriesFund$Lot;", true)
  | _ => ("SeriesFund$Book", "requests", "[LSeriesFund$Request;", true)
def tyX0 : Nat → FieldType := fun k => match k with
  | 0 => .int
  | 1 => .int
  | 2 => .int
  | 3 => .int
  | 4 => .int
  | 5 => .int
  | 6 => .int
  | 7 => .int
  | 8 => .int
  | 9 => .int
  | 10 => .array .long
  | 11 => .array (.object "SeriesFund$Series")
  | 12 => .array (.object "SeriesFund$Lot")
  | _ => .array (.object "SeriesFund$Request")
theorem nmX0 : ∀ a, a < 14 → ∀ b, b < 14 → a ≠ b → (TX0 a).2.1 ≠ (TX0 b).2.1 := by decide +kernel
theorem tyX0_ok : ∀ k, k < 14 → parseFieldDescriptor (TX0 k).2.2.1 = some (tyX0 k) := by decide +kernel
abbrev cX0_init : ByteArray := prog_2_method_1_code
def yX0_init : MethodName := ⟨RX0, "<init>", "()V"⟩
abbrev cX0_copyFrom : ByteArray := prog_2_method_2_code
def yX0_copyFrom : MethodName := ⟨RX0, "copyFrom", "(LSeriesFund$Book;)V"⟩
abbrev cX0_empty : ByteArray := prog_2_method_3_code
def yX0_empty : MethodName := ⟨RX0, "empty", "()V"⟩
abbrev cX0_hasInvestor : ByteArray := prog_2_method_4_code
def yX0_hasInvestor : MethodName := ⟨RX0, "hasInvestor", "(I)Z"⟩
abbrev cX0_unitsHeldBy : ByteArray := prog_2_method_5_code
def yX0_unitsHeldBy : MethodName := ⟨RX0, "unitsHeldBy", "(I)J"⟩
abbrev cX0_unitsHeldIn : ByteArray := prog_2_method_6_code
def yX0_unitsHeldIn : MethodName := ⟨RX0, "unitsHeldIn", "(II)J"⟩
abbrev cX0_lotsOfSeries : ByteArray := prog_2_method_7_code
def yX0_lotsOfSeries : MethodName := ⟨RX0, "lotsOfSeries", "(I)I"⟩
abbrev cX0_placeOfSeries : ByteArray := prog_2_method_8_code
def yX0_placeOfSeries : MethodName := ⟨RX0, "placeOfSeries", "(I)I"⟩
abbrev cX0_netOfAll : ByteArray := prog_2_method_9_code
def yX0_netOfAll : MethodName := ⟨RX0, "netOfAll", "()J"⟩
abbrev cX0_limitOfGate : ByteArray := prog_2_method_10_code
def yX0_limitOfGate : MethodName := ⟨RX0, "limitOfGate", "()J"⟩
abbrev cX0_fallOfPay : ByteArray := prog_2_method_11_code
def yX0_fallOfPay : MethodName := ⟨RX0, "fallOfPay", "(I)J"⟩
abbrev cX0_canBeDue : ByteArray := prog_2_method_12_code
def yX0_canBeDue : MethodName := ⟨RX0, "canBeDue", "(LSeriesFund$Lot;)Z"⟩
abbrev cX0_beginSeries : ByteArray := prog_2_method_13_code
def yX0_beginSeries : MethodName := ⟨RX0, "beginSeries", "()LSeriesFund$Series;"⟩
abbrev cX0_addLot : ByteArray := prog_2_method_14_code
def yX0_addLot : MethodName := ⟨RX0, "addLot", "(IIJJJ)LSeriesFund$Lot;"⟩
abbrev cX0_dropEmptyLots : ByteArray := prog_2_method_15_code
def yX0_dropEmptyLots : MethodName := ⟨RX0, "dropEmptyLots", "()V"⟩
abbrev cX0_closeEmptySeries : ByteArray := prog_2_method_16_code
def yX0_closeEmptySeries : MethodName := ⟨RX0, "closeEmptySeries", "()V"⟩
abbrev cX0_transferFault : ByteArray := prog_2_method_17_code
def yX0_transferFault : MethodName := ⟨RX0, "transferFault", "(III)I"⟩
abbrev cX0_splitsLot : ByteArray := prog_2_method_18_code
def yX0_splitsLot : MethodName := ⟨RX0, "splitsLot", "(IJ)Z"⟩
abbrev cX0_moveUnits : ByteArray := prog_2_method_19_code
def yX0_moveUnits : MethodName := ⟨RX0, "moveUnits", "(IIJ)V"⟩
abbrev cX0_splitLot : ByteArray := prog_2_method_20_code
def yX0_splitLot : MethodName := ⟨RX0, "splitLot", "(LSeriesFund$Lot;IJ)V"⟩
abbrev cX0_subscriptionFault : ByteArray := prog_2_method_21_code
def yX0_subscriptionFault : MethodName := ⟨RX0, "subscriptionFault", "(II)I"⟩
abbrev cX0_redemptionFault : ByteArray := prog_2_method_22_code
def yX0_redemptionFault : MethodName := ⟨RX0, "redemptionFault", "(II)I"⟩
abbrev cX0_unitsWaitingOf : ByteArray := prog_2_method_23_code
def yX0_unitsWaitingOf : MethodName := ⟨RX0, "unitsWaitingOf", "(I)J"⟩
abbrev cX0_addRequest : ByteArray := prog_2_method_24_code
def yX0_addRequest : MethodName := ⟨RX0, "addRequest", "(IZJ)I"⟩
abbrev cX0_removeRequest : ByteArray := prog_2_method_25_code
def yX0_removeRequest : MethodName := ⟨RX0, "removeRequest", "(I)V"⟩
abbrev cX0_isDone : ByteArray := prog_2_method_26_code
def yX0_isDone : MethodName := ⟨RX0, "isDone", "(I)Z"⟩
abbrev cX0_doneBefore : ByteArray := prog_2_method_27_code
def yX0_doneBefore : MethodName := ⟨RX0, "doneBefore", "(I)I"⟩
abbrev cX0_dropDoneRequests : ByteArray := prog_2_method_28_code
def yX0_dropDoneRequests : MethodName := ⟨RX0, "dropDoneRequests", "()I"⟩
def RX1 : String := "SeriesFund$Desk"
def TX1 : u_T := fun k => match k with
  | 0 => ("SeriesFund$Desk", "trial", "[LSeriesFund$Series;", true)
  | 1 => ("SeriesFund$Desk", "base", "J", false)
  | 2 => ("SeriesFund$Desk", "part", "J", false)
  | 3 => ("SeriesFund$Desk", "usedCredit", "J", false)
  | 4 => ("SeriesFund$Desk", "back", "J", false)
  | _ => ("SeriesFund$Desk", "due", "J", false)
def tyX1 : Nat → FieldType := fun k => match k with
  | 0 => .array (.object "SeriesFund$Series")
  | 1 => .long
  | 2 => .long
  | 3 => .long
  | 4 => .long
  | _ => .long
theorem nmX1 : ∀ a, a < 6 → ∀ b, b < 6 → a ≠ b → (TX1 a).2.1 ≠ (TX1 b).2.1 := by decide +kernel
theorem tyX1_ok : ∀ k, k < 6 → parseFieldDescriptor (TX1 k).2.2.1 = some (tyX1 k) := by decide +kernel
abbrev cX1_init : ByteArray := prog_3_method_1_code
def yX1_init : MethodName := ⟨RX1, "<init>", "()V"⟩
abbrev cX1_holdDealing : ByteArray := prog_3_method_2_code
def yX1_holdDealing : MethodName := ⟨RX1, "holdDealing", "(LSeriesFund$Book;)I"⟩
abbrev cX1_redeemWaiting : ByteArray := prog_3_method_3_code
def yX1_redeemWaiting : MethodName := ⟨RX1, "redeemWaiting", "(LSeriesFund$Book;J)V"⟩
abbrev cX1_baseOfRedemptions : ByteArray := prog_3_method_4_code
def yX1_baseOfRedemptions : MethodName := ⟨RX1, "baseOfRedemptions", "(LSeriesFund$Book;)J"⟩
abbrev cX1_payAfterRate : ByteArray := prog_3_method_5_code
def yX1_payAfterRate : MethodName := ⟨RX1, "payAfterRate", "(LSeriesFund$Book;II)J"⟩
abbrev cX1_resetTrial : ByteArray := prog_3_method_6_code
def yX1_resetTrial : MethodName := ⟨RX1, "resetTrial", "(LSeriesFund$Book;I)V"⟩
abbrev cX1_tryRedemption : ByteArray := prog_3_method_7_code
def yX1_tryRedemption : MethodName := ⟨RX1, "tryRedemption", "(LSeriesFund$Book;IJZ)J"⟩
abbrev cX1_redeemUnits : ByteArray := prog_3_method_8_code
def yX1_redeemUnits : MethodName := ⟨RX1, "redeemUnits", "(LSeriesFund$Book;IJ)J"⟩
abbrev cX1_takeOut : ByteArray := prog_3_method_9_code
def yX1_takeOut : MethodName := ⟨RX1, "takeOut", "(LSeriesFund$Book;LSeriesFund$Series;LSeriesFund$Lot;J)V"⟩
abbrev cX1_quote : ByteArray := prog_3_method_10_code
def yX1_quote : MethodName := ⟨RX1, "quote", "(LSeriesFund$Book;LSeriesFund$Series;LSeriesFund$Lot;J)V"⟩
abbrev cX1_subscribeWaiting : ByteArray := prog_3_method_11_code
def yX1_subscribeWaiting : MethodName := ⟨RX1, "subscribeWaiting", "(LSeriesFund$Book;)V"⟩
abbrev cX1_takeIn : ByteArray := prog_3_method_12_code
def yX1_takeIn : MethodName := ⟨RX1, "takeIn", "(LSeriesFund$Book;LSeriesFund$Request;I)Z"⟩
def RX2 : String := "SeriesFund$Fees"
def TX2 : u_T := fun k => match k with
  | _ => ("", "", "", false)
def tyX2 : Nat → FieldType := fun k => match k with
  | _ => .int
theorem nmX2 : ∀ a, a < 0 → ∀ b, b < 0 → a ≠ b → (TX2 a).2.1 ≠ (TX2 b).2.1 := by decide +kernel
theorem tyX2_ok : ∀ k, k < 0 → parseFieldDescriptor (TX2 k).2.2.1 = some (tyX2 k) := by decide +kernel
abbrev cX2_dueOn : ByteArray := prog_4_method_2_code
def yX2_dueOn : MethodName := ⟨RX2, "dueOn", "(JJJI)J"⟩
abbrev cX2_earningFault : ByteArray := prog_4_method_3_code
def yX2_earningFault : MethodName := ⟨RX2, "earningFault", "(LSeriesFund$Book;I)I"⟩
abbrev cX2_earnRate : ByteArray := prog_4_method_4_code
def yX2_earnRate : MethodName := ⟨RX2, "earnRate", "(LSeriesFund$Book;I)J"⟩
abbrev cX2_passingFault : ByteArray := prog_4_method_5_code
def yX2_passingFault : MethodName := ⟨RX2, "passingFault", "(I)I"⟩
abbrev cX2_chargeDays : ByteArray := prog_4_method_6_code
def yX2_chargeDays : MethodName := ⟨RX2, "chargeDays", "(LSeriesFund$Book;I)J"⟩
abbrev cX2_settleAll : ByteArray := prog_4_method_7_code
def yX2_settleAll : MethodName := ⟨RX2, "settleAll", "(LSeriesFund$Book;)J"⟩
abbrev cX2_settleSeries : ByteArray := prog_4_method_8_code
def yX2_settleSeries : MethodName := ⟨RX2, "settleSeries", "(LSeriesFund$Book;LSeriesFund$Series;)V"⟩
abbrev cX2_giveBack : ByteArray := prog_4_method_9_code
def yX2_giveBack : MethodName := ⟨RX2, "giveBack", "(LSeriesFund$Book;LSeriesFund$Series;LSeriesFund$Lot;JJ)V"⟩
abbrev cX2_takeDue : ByteArray := prog_4_method_10_code
def yX2_takeDue : MethodName := ⟨RX2, "takeDue", "(LSeriesFund$Book;LSeriesFund$Series;LSeriesFund$Lot;JJ)V"⟩
abbrev cX2_mergeAll : ByteArray := prog_4_method_11_code
def yX2_mergeAll : MethodName := ⟨RX2, "mergeAll", "(LSeriesFund$Book;)I"⟩
abbrev cX2_absorb : ByteArray := prog_4_method_12_code
def yX2_absorb : MethodName := ⟨RX2, "absorb", "(LSeriesFund$Book;LSeriesFund$Series;JLSeriesFund$Series;)V"⟩
def RX3 : String := "SeriesFund$FundText"
def TX3 : u_T := fun k => match k with
  | 0 => ("SeriesFund$FundText", "tokens", "LSeriesFund$Tokens;", true)
  | 1 => ("SeriesFund$FundText", "book", "LSeriesFund$Book;", true)
  | _ => ("SeriesFund$FundText", "code", "I", false)
def tyX3 : Nat → FieldType := fun k => match k with
  | 0 => .object "SeriesFund$Tokens"
  | 1 => .object "SeriesFund$Book"
  | _ => .int
theorem nmX3 : ∀ a, a < 3 → ∀ b, b < 3 → a ≠ b → (TX3 a).2.1 ≠ (TX3 b).2.1 := by decide +kernel
theorem tyX3_ok : ∀ k, k < 3 → parseFieldDescriptor (TX3 k).2.2.1 = some (tyX3 k) := by decide +kernel
abbrev cX3_init : ByteArray := prog_5_method_1_code
def yX3_init : MethodName := ⟨RX3, "<init>", "(LSeriesFund$Tokens;LSeriesFund$Book;)V"⟩
abbrev cX3_readAll : ByteArray := prog_5_method_2_code
def yX3_readAll : MethodName := ⟨RX3, "readAll", "()Z"⟩
abbrev cX3_readFund : ByteArray := prog_5_method_3_code
def yX3_readFund : MethodName := ⟨RX3, "readFund", "()Z"⟩
abbrev cX3_readMethod : ByteArray := prog_5_method_4_code
def yX3_readMethod : MethodName := ⟨RX3, "readMethod", "()Z"⟩
abbrev cX3_readInvestors : ByteArray := prog_5_method_5_code
def yX3_readInvestors : MethodName := ⟨RX3, "readInvestors", "()Z"⟩
abbrev cX3_readSubscriptions : ByteArray := prog_5_method_6_code
def yX3_readSubscriptions : MethodName := ⟨RX3, "readSubscriptions", "()Z"⟩
abbrev cX3_readSubscription : ByteArray := prog_5_method_7_code
def yX3_readSubscription : MethodName := ⟨RX3, "readSubscription", "()Z"⟩
abbrev cX3_readWord : ByteArray := prog_5_method_8_code
def yX3_readWord : MethodName := ⟨RX3, "readWord", "(Ljava/lang/String;)Z"⟩
abbrev cX3_readSemicolon : ByteArray := prog_5_method_9_code
def yX3_readSemicolon : MethodName := ⟨RX3, "readSemicolon", "()Z"⟩
abbrev cX3_readNumber : ByteArray := prog_5_method_10_code
def yX3_readNumber : MethodName := ⟨RX3, "readNumber", "(II)Z"⟩
abbrev cX3_accept : ByteArray := prog_5_method_11_code
def yX3_accept : MethodName := ⟨RX3, "accept", "(ZI)Z"⟩
def RX4 : String := "SeriesFund$Lot"
def TX4 : u_T := fun k => match k with
  | 0 => ("SeriesFund$Lot", "investor", "I", false)
  | 1 => ("SeriesFund$Lot", "series", "I", false)
  | 2 => ("SeriesFund$Lot", "day", "I", false)
  | 3 => ("SeriesFund$Lot", "units", "J", false)
  | 4 => ("SeriesFund$Lot", "entryPrice", "J", false)
  | _ => ("SeriesFund$Lot", "credit", "J", false)
def tyX4 : Nat → FieldType := fun k => match k with
  | 0 => .int
  | 1 => .int
  | 2 => .int
  | 3 => .long
  | 4 => .long
  | _ => .long
theorem nmX4 : ∀ a, a < 6 → ∀ b, b < 6 → a ≠ b → (TX4 a).2.1 ≠ (TX4 b).2.1 := by decide +kernel
theorem tyX4_ok : ∀ k, k < 6 → parseFieldDescriptor (TX4 k).2.2.1 = some (tyX4 k) := by decide +kernel
abbrev cX4_init : ByteArray := prog_6_method_1_code
def yX4_init : MethodName := ⟨RX4, "<init>", "()V"⟩
abbrev cX4_copyFrom : ByteArray := prog_6_method_2_code
def yX4_copyFrom : MethodName := ⟨RX4, "copyFrom", "(LSeriesFund$Lot;)V"⟩
def RX5 : String := "SeriesFund$Report"
def TX5 : u_T := fun k => match k with
  | 0 => ("SeriesFund$Report", "bytes", "[B", true)
  | 1 => ("SeriesFund$Report", "length", "I", false)
  | _ => ("SeriesFund$Report", "digits", "[B", true)
def tyX5 : Nat → FieldType := fun k => match k with
  | 0 => .array .byte
  | 1 => .int
  | _ => .array .byte
theorem nmX5 : ∀ a, a < 3 → ∀ b, b < 3 → a ≠ b → (TX5 a).2.1 ≠ (TX5 b).2.1 := by decide +kernel
theorem tyX5_ok : ∀ k, k < 3 → parseFieldDescriptor (TX5 k).2.2.1 = some (tyX5 k) := by decide +kernel
abbrev cX5_init : ByteArray := prog_7_method_1_code
def yX5_init : MethodName := ⟨RX5, "<init>", "()V"⟩
abbrev cX5_write : ByteArray := prog_7_method_2_code
def yX5_write : MethodName := ⟨RX5, "write", "(LSeriesFund$Book;)V"⟩
abbrev cX5_writeSeries : ByteArray := prog_7_method_3_code
def yX5_writeSeries : MethodName := ⟨RX5, "writeSeries", "(LSeriesFund$Book;LSeriesFund$Series;)V"⟩
abbrev cX5_putText : ByteArray := prog_7_method_4_code
def yX5_putText : MethodName := ⟨RX5, "putText", "(Ljava/lang/String;)V"⟩
abbrev cX5_putNumber : ByteArray := prog_7_method_5_code
def yX5_putNumber : MethodName := ⟨RX5, "putNumber", "(J)V"⟩
abbrev cX5_putByte : ByteArray := prog_7_method_6_code
def yX5_putByte : MethodName := ⟨RX5, "putByte", "(B)V"⟩
def RX6 : String := "SeriesFund$Request"
def TX6 : u_T := fun k => match k with
  | 0 => ("SeriesFund$Request", "investor", "I", false)
  | 1 => ("SeriesFund$Request", "day", "I", false)
  | 2 => ("SeriesFund$Request", "redemption", "Z", false)
  | 3 => ("SeriesFund$Request", "quantity", "J", false)
  | _ => ("SeriesFund$Request", "redeemed", "J", false)
def tyX6 : Nat → FieldType := fun k => match k with
  | 0 => .int
  | 1 => .int
  | 2 => .boolean
  | 3 => .long
  | _ => .long
theorem nmX6 : ∀ a, a < 5 → ∀ b, b < 5 → a ≠ b → (TX6 a).2.1 ≠ (TX6 b).2.1 := by decide +kernel
theorem tyX6_ok : ∀ k, k < 5 → parseFieldDescriptor (TX6 k).2.2.1 = some (tyX6 k) := by decide +kernel
abbrev cX6_init : ByteArray := prog_8_method_1_code
def yX6_init : MethodName := ⟨RX6, "<init>", "()V"⟩
abbrev cX6_copyFrom : ByteArray := prog_8_method_2_code
def yX6_copyFrom : MethodName := ⟨RX6, "copyFrom", "(LSeriesFund$Request;)V"⟩
def RX7 : String := "SeriesFund$Script"
def TX7 : u_T := fun k => match k with
  | 0 => ("SeriesFund$Script", "tokens", "LSeriesFund$Tokens;", true)
  | 1 => ("SeriesFund$Script", "book", "LSeriesFund$Book;", true)
  | 2 => ("SeriesFund$Script", "desk", "LSeriesFund$Desk;", true)
  | 3 => ("SeriesFund$Script", "operation", "I", false)
  | 4 => ("SeriesFund$Script", "first", "I", false)
  | _ => ("SeriesFund$Script", "second", "I", false)
def tyX7 : Nat → FieldType := fun k => match k with
  | 0 => .object "SeriesFund$Tokens"
  | 1 => .object "SeriesFund$Book"
  | 2 => .object "SeriesFund$Desk"
  | 3 => .int
  | 4 => .int
  | _ => .int
theorem nmX7 : ∀ a, a < 6 → ∀ b, b < 6 → a ≠ b → (TX7 a).2.1 ≠ (TX7 b).2.1 := by decide +kernel
theorem tyX7_ok : ∀ k, k < 6 → parseFieldDescriptor (TX7 k).2.2.1 = some (tyX7 k) := by decide +kernel
abbrev cX7_init : ByteArray := prog_9_method_1_code
def yX7_init : MethodName := ⟨RX7, "<init>", "(LSeriesFund$Tokens;LSeriesFund$Book;LSeriesFund$Desk;)V"⟩
abbrev cX7_readOperation : ByteArray := prog_9_method_2_code
def yX7_readOperation : MethodName := ⟨RX7, "readOperation", "()Z"⟩
abbrev cX7_readNumber : ByteArray := prog_9_method_3_code
def yX7_readNumber : MethodName := ⟨RX7, "readNumber", "()Z"⟩
abbrev cX7_operationOfWord : ByteArray := prog_9_method_4_code
def yX7_operationOfWord : MethodName := ⟨RX7, "operationOfWord", "()I"⟩
abbrev cX7_numbersOf : ByteArray := prog_9_method_5_code
def yX7_numbersOf : MethodName := ⟨RX7, "numbersOf", "(I)I"⟩
abbrev cX7_execute : ByteArray := prog_9_method_6_code
def yX7_execute : MethodName := ⟨RX7, "execute", "()Z"⟩
abbrev cX7_fault : ByteArray := prog_9_method_7_code
def yX7_fault : MethodName := ⟨RX7, "fault", "()I"⟩
def RX8 : String := "SeriesFund$Series"
def TX8 : u_T := fun k => match k with
  | 0 => ("SeriesFund$Series", "number", "I", false)
  | 1 => ("SeriesFund$Series", "startDay", "I", false)
  | 2 => ("SeriesFund$Series", "assets", "J", false)
  | 3 => ("SeriesFund$Series", "units", "J", false)
  | _ => ("SeriesFund$Series", "mark", "J", false)
def tyX8 : Nat → FieldType := fun k => match k with
  | 0 => .int
  | 1 => .int
  | 2 => .long
  | 3 => .long
  | _ => .long
theorem nmX8 : ∀ a, a < 5 → ∀ b, b < 5 → a ≠ b → (TX8 a).2.1 ≠ (TX8 b).2.1 := by decide +kernel
theorem tyX8_ok : ∀ k, k < 5 → parseFieldDescriptor (TX8 k).2.2.1 = some (tyX8 k) := by decide +kernel
abbrev cX8_init : ByteArray := prog_10_method_1_code
def yX8_init : MethodName := ⟨RX8, "<init>", "()V"⟩
abbrev cX8_copyFrom : ByteArray := prog_10_method_2_code
def yX8_copyFrom : MethodName := ⟨RX8, "copyFrom", "(LSeriesFund$Series;)V"⟩
abbrev cX8_begin : ByteArray := prog_10_method_3_code
def yX8_begin : MethodName := ⟨RX8, "begin", "(II)V"⟩
abbrev cX8_grossPrice : ByteArray := prog_10_method_4_code
def yX8_grossPrice : MethodName := ⟨RX8, "grossPrice", "()J"⟩
abbrev cX8_netPrice : ByteArray := prog_10_method_5_code
def yX8_netPrice : MethodName := ⟨RX8, "netPrice", "(I)J"⟩
abbrev cX8_priceWith : ByteArray := prog_10_method_6_code
def yX8_priceWith : MethodName := ⟨RX8, "priceWith", "(J)J"⟩
abbrev cX8_accruedFee : ByteArray := prog_10_method_7_code
def yX8_accruedFee : MethodName := ⟨RX8, "accruedFee", "(I)J"⟩
abbrev cX8_assetsAfter : ByteArray := prog_10_method_8_code
def yX8_assetsAfter : MethodName := ⟨RX8, "assetsAfter", "(I)J"⟩
def RX9 : String := "SeriesFund$Tokens"
def TX9 : u_T := fun k => match k with
  | 0 => ("SeriesFund$Tokens", "text", "[C", true)
  | 1 => ("SeriesFund$Tokens", "held", "I", false)
  | 2 => ("SeriesFund$Tokens", "length", "I", false)
  | 3 => ("SeriesFund$Tokens", "end", "I", false)
  | 4 => ("SeriesFund$Tokens", "start", "I", false)
  | 5 => ("SeriesFund$Tokens", "kind", "I", false)
  | _ => ("SeriesFund$Tokens", "value", "I", false)
def tyX9 : Nat → FieldType := fun k => match k with
  | 0 => .array .char
  | 1 => .int
  | 2 => .int
  | 3 => .int
  | 4 => .int
  | 5 => .int
  | _ => .int
theorem nmX9 : ∀ a, a < 7 → ∀ b, b < 7 → a ≠ b → (TX9 a).2.1 ≠ (TX9 b).2.1 := by decide +kernel
theorem tyX9_ok : ∀ k, k < 7 → parseFieldDescriptor (TX9 k).2.2.1 = some (tyX9 k) := by decide +kernel
abbrev cX9_init : ByteArray := prog_11_method_1_code
def yX9_init : MethodName := ⟨RX9, "<init>", "()V"⟩
abbrev cX9_putFour : ByteArray := prog_11_method_2_code
def yX9_putFour : MethodName := ⟨RX9, "putFour", "(I)V"⟩
abbrev cX9_takeBuffer : ByteArray := prog_11_method_3_code
def yX9_takeBuffer : MethodName := ⟨RX9, "takeBuffer", "()V"⟩
abbrev cX9_advance : ByteArray := prog_11_method_4_code
def yX9_advance : MethodName := ⟨RX9, "advance", "()V"⟩
abbrev cX9_isLetter : ByteArray := prog_11_method_5_code
def yX9_isLetter : MethodName := ⟨RX9, "isLetter", "(I)Z"⟩
abbrev cX9_isDigit : ByteArray := prog_11_method_6_code
def yX9_isDigit : MethodName := ⟨RX9, "isDigit", "(I)Z"⟩
abbrev cX9_isWord : ByteArray := prog_11_method_7_code
def yX9_isWord : MethodName := ⟨RX9, "isWord", "(Ljava/lang/String;)Z"⟩
def RX10 : String := "SeriesFund"
def TX10 : u_T := fun k => match k with
  | 0 => ("SeriesFund", "tokens", "LSeriesFund$Tokens;", true)
  | 1 => ("SeriesFund", "parseCode", "I", false)
  | 2 => ("SeriesFund", "parsePosition", "I", false)
  | 3 => ("SeriesFund", "book", "LSeriesFund$Book;", true)
  | 4 => ("SeriesFund", "thought", "LSeriesFund$Book;", true)
  | 5 => ("SeriesFund", "desk", "LSeriesFund$Desk;", true)
  | 6 => ("SeriesFund", "past", "[LSeriesFund$Book;", true)
  | 7 => ("SeriesFund", "newest", "I", false)
  | 8 => ("SeriesFund", "remembered", "I", false)
  | _ => ("SeriesFund", "report", "LSeriesFund$Report;", true)
def tyX10 : Nat → FieldType := fun k => match k with
  | 0 => .object "SeriesFund$Tokens"
  | 1 => .int
  | 2 => .int
  | 3 => .object "SeriesFund$Book"
  | 4 => .object "SeriesFund$Book"
  | 5 => .object "SeriesFund$Desk"
  | 6 => .array (.object "SeriesFund$Book")
  | 7 => .int
  | 8 => .int
  | _ => .object "SeriesFund$Report"
theorem nmX10 : ∀ a, a < 10 → ∀ b, b < 10 → a ≠ b → (TX10 a).2.1 ≠ (TX10 b).2.1 := by decide +kernel
theorem tyX10_ok : ∀ k, k < 10 → parseFieldDescriptor (TX10 k).2.2.1 = some (tyX10 k) := by decide +kernel
abbrev cX10_init : ByteArray := prog_1_method_1_code
def yX10_init : MethodName := ⟨RX10, "<init>", "()V"⟩
abbrev cX10_appendText : ByteArray := prog_1_method_2_code
def yX10_appendText : MethodName := ⟨RX10, "appendText", "(IIIII)I"⟩
abbrev cX10_truncateText : ByteArray := prog_1_method_3_code
def yX10_truncateText : MethodName := ⟨RX10, "truncateText", "(I)I"⟩
abbrev cX10_parseFund : ByteArray := prog_1_method_4_code
def yX10_parseFund : MethodName := ⟨RX10, "parseFund", "()I"⟩
abbrev cX10_errorCode : ByteArray := prog_1_method_5_code
def yX10_errorCode : MethodName := ⟨RX10, "errorCode", "()I"⟩
abbrev cX10_errorPosition : ByteArray := prog_1_method_6_code
def yX10_errorPosition : MethodName := ⟨RX10, "errorPosition", "()I"⟩
abbrev cX10_subscribe : ByteArray := prog_1_method_7_code
def yX10_subscribe : MethodName := ⟨RX10, "subscribe", "(II)I"⟩
abbrev cX10_redeem : ByteArray := prog_1_method_8_code
def yX10_redeem : MethodName := ⟨RX10, "redeem", "(II)I"⟩
abbrev cX10_withdraw : ByteArray := prog_1_method_9_code
def yX10_withdraw : MethodName := ⟨RX10, "withdraw", "(I)J"⟩
abbrev cX10_deal : ByteArray := prog_1_method_10_code
def yX10_deal : MethodName := ⟨RX10, "deal", "()I"⟩
abbrev cX10_earn : ByteArray := prog_1_method_11_code
def yX10_earn : MethodName := ⟨RX10, "earn", "(I)J"⟩
abbrev cX10_passDays : ByteArray := prog_1_method_12_code
def yX10_passDays : MethodName := ⟨RX10, "passDays", "(I)J"⟩
abbrev cX10_crystallize : ByteArray := prog_1_method_13_code
def yX10_crystallize : MethodName := ⟨RX10, "crystallize", "()J"⟩
abbrev cX10_merge : ByteArray := prog_1_method_14_code
def yX10_merge : MethodName := ⟨RX10, "merge", "()I"⟩
abbrev cX10_transfer : ByteArray := prog_1_method_15_code
def yX10_transfer : MethodName := ⟨RX10, "transfer", "(III)J"⟩
abbrev cX10_setGate : ByteArray := prog_1_method_16_code
def yX10_setGate : MethodName := ⟨RX10, "setGate", "(I)I"⟩
abbrev cX10_runScript : ByteArray := prog_1_method_17_code
def yX10_runScript : MethodName := ⟨RX10, "runScript", "()I"⟩
abbrev cX10_remember : ByteArray := prog_1_method_18_code
def yX10_remember : MethodName := ⟨RX10, "remember", "()V"⟩
abbrev cX10_refuse : ByteArray := prog_1_method_19_code
def yX10_refuse : MethodName := ⟨RX10, "refuse", "(I)V"⟩
abbrev cX10_checkInvestor : ByteArray := prog_1_method_20_code
def yX10_checkInvestor : MethodName := ⟨RX10, "checkInvestor", "(I)V"⟩
abbrev cX10_checkRequest : ByteArray := prog_1_method_21_code
def yX10_checkRequest : MethodName := ⟨RX10, "checkRequest", "(I)V"⟩
abbrev cX10_placeOf : ByteArray := prog_1_method_22_code
def yX10_placeOf : MethodName := ⟨RX10, "placeOf", "(I)I"⟩
abbrev cX10_count : ByteArray := prog_1_method_23_code
def yX10_count : MethodName := ⟨RX10, "count", "(I)I"⟩
abbrev cX10_netAssets : ByteArray := prog_1_method_24_code
def yX10_netAssets : MethodName := ⟨RX10, "netAssets", "()J"⟩
abbrev cX10_account : ByteArray := prog_1_method_25_code
def yX10_account : MethodName := ⟨RX10, "account", "(I)J"⟩
abbrev cX10_openSeries : ByteArray := prog_1_method_26_code
def yX10_openSeries : MethodName := ⟨RX10, "openSeries", "(I)I"⟩
abbrev cX10_seriesValue : ByteArray := prog_1_method_27_code
def yX10_seriesValue : MethodName := ⟨RX10, "seriesValue", "(II)J"⟩
abbrev cX10_lot : ByteArray := prog_1_method_28_code
def yX10_lot : MethodName := ⟨RX10, "lot", "(II)J"⟩
abbrev cX10_request : ByteArray := prog_1_method_29_code
def yX10_request : MethodName := ⟨RX10, "request", "(II)J"⟩
abbrev cX10_unitsOf : ByteArray := prog_1_method_30_code
def yX10_unitsOf : MethodName := ⟨RX10, "unitsOf", "(I)J"⟩
abbrev cX10_holding : ByteArray := prog_1_method_31_code
def yX10_holding : MethodName := ⟨RX10, "holding", "(II)J"⟩
abbrev cX10_valueOf : ByteArray := prog_1_method_32_code
def yX10_valueOf : MethodName := ⟨RX10, "valueOf", "(I)J"⟩
abbrev cX10_richest : ByteArray := prog_1_method_33_code
def yX10_richest : MethodName := ⟨RX10, "richest", "(I)I"⟩
abbrev cX10_placeInRanking : ByteArray := prog_1_method_34_code
def yX10_placeInRanking : MethodName := ⟨RX10, "placeInRanking", "(I)I"⟩
abbrev cX10_share : ByteArray := prog_1_method_35_code
def yX10_share : MethodName := ⟨RX10, "share", "(I)D"⟩
abbrev cX10_requestedValue : ByteArray := prog_1_method_36_code
def yX10_requestedValue : MethodName := ⟨RX10, "requestedValue", "()J"⟩
abbrev cX10_gateLimit : ByteArray := prog_1_method_37_code
def yX10_gateLimit : MethodName := ⟨RX10, "gateLimit", "()J"⟩
abbrev cX10_wouldRedeem : ByteArray := prog_1_method_38_code
def yX10_wouldRedeem : MethodName := ⟨RX10, "wouldRedeem", "(I)J"⟩
abbrev cX10_dealsUntilDone : ByteArray := prog_1_method_39_code
def yX10_dealsUntilDone : MethodName := ⟨RX10, "dealsUntilDone", "(I)I"⟩
abbrev cX10_feesIf : ByteArray := prog_1_method_40_code
def yX10_feesIf : MethodName := ⟨RX10, "feesIf", "(I)J"⟩
abbrev cX10_breakEven : ByteArray := prog_1_method_41_code
def yX10_breakEven : MethodName := ⟨RX10, "breakEven", "(I)I"⟩
abbrev cX10_rateFor : ByteArray := prog_1_method_42_code
def yX10_rateFor : MethodName := ⟨RX10, "rateFor", "(IJ)I"⟩
abbrev cX10_firstRateInReach : ByteArray := prog_1_method_43_code
def yX10_firstRateInReach : MethodName := ⟨RX10, "firstRateInReach", "(IJ)I"⟩
abbrev cX10_daysUntil : ByteArray := prog_1_method_44_code
def yX10_daysUntil : MethodName := ⟨RX10, "daysUntil", "(J)I"⟩
abbrev cX10_wouldCrystallize : ByteArray := prog_1_method_45_code
def yX10_wouldCrystallize : MethodName := ⟨RX10, "wouldCrystallize", "()J"⟩
abbrev cX10_wouldMerge : ByteArray := prog_1_method_46_code
def yX10_wouldMerge : MethodName := ⟨RX10, "wouldMerge", "()I"⟩
abbrev cX10_bestGate : ByteArray := prog_1_method_47_code
def yX10_bestGate : MethodName := ⟨RX10, "bestGate", "(I)I"⟩
abbrev cX10_writeReport : ByteArray := prog_1_method_48_code
def yX10_writeReport : MethodName := ⟨RX10, "writeReport", "()I"⟩
abbrev cX10_reportByte : ByteArray := prog_1_method_49_code
def yX10_reportByte : MethodName := ⟨RX10, "reportByte", "(I)I"⟩
abbrev cX10_undo : ByteArray := prog_1_method_50_code
def yX10_undo : MethodName := ⟨RX10, "undo", "()I"⟩
abbrev cX10_undoDepth : ByteArray := prog_1_method_51_code
def yX10_undoDepth : MethodName := ⟨RX10, "undoDepth", "()I"⟩
def RX11 : String := "SeriesFundModel"
def TX11 : u_T := fun k => match k with
  | 0 => ("SeriesFundModel", "w", "[J", true)
  | 1 => ("SeriesFundModel", "aside", "[J", true)
  | 2 => ("SeriesFundModel", "thought", "[J", true)
  | 3 => ("SeriesFundModel", "inner", "[J", true)
  | 4 => ("SeriesFundModel", "fresh", "[J", true)
  | 5 => ("SeriesFundModel", "past", "[J", true)
  | 6 => ("SeriesFundModel", "pastCount", "I", false)
  | 7 => ("SeriesFundModel", "thrown", "I", false)
  | 8 => ("SeriesFundModel", "bases", "J", false)
  | 9 => ("SeriesFundModel", "payments", "J", false)
  | 10 => ("SeriesFundModel", "took", "[J", true)
  | 11 => ("SeriesFundModel", "isDone", "[Z", true)
  | 12 => ("SeriesFundModel", "text", "[B", true)
  | 13 => ("SeriesFundModel", "length", "I", false)
  | 14 => ("SeriesFundModel", "from", "I", false)
  | 15 => ("SeriesFundModel", "to", "I", false)
  | 16 => ("SeriesFundModel", "end", "I", false)
  | 17 => ("SeriesFundModel", "fault", "I", false)
  | 18 => ("SeriesFundModel", "faultAt", "I", false)
  | 19 => ("SeriesFundModel", "first", "I", false)
  | 20 => ("SeriesFundModel", "second", "I", false)
  | 21 => ("SeriesFundModel", "assetsLeft", "[J", true)
  | 22 => ("SeriesFundModel", "unitsLeft", "[J", true)
  | 23 => ("SeriesFundModel", "page", "[B", true)
  | _ => ("SeriesFundModel", "pageLength", "I", false)
def tyX11 : Nat → FieldType := fun k => match k with
  | 0 => .array .long
  | 1 => .array .long
  | 2 => .array .long
  | 3 => .array .long
  | 4 => .array .long
  | 5 => .array .long
  | 6 => .int
  | 7 => .int
  | 8 => .long
  | 9 => .long
  | 10 => .array .long
  | 11 => .array .boolean
  | 12 => .array .byte
  | 13 => .int
  | 14 => .int
  | 15 => .int
  | 16 => .int
  | 17 => .int
  | 18 => .int
  | 19 => .int
  | 20 => .int
  | 21 => .array .long
  | 22 => .array .long
  | 23 => .array .byte
  | _ => .int
theorem nmX11 : ∀ a, a < 25 → ∀ b, b < 25 → a ≠ b → (TX11 a).2.1 ≠ (TX11 b).2.1 := by decide +kernel
theorem tyX11_ok : ∀ k, k < 25 → parseFieldDescriptor (TX11 k).2.2.1 = some (tyX11 k) := by decide +kernel
abbrev cX11_init : ByteArray := prog_13_method_1_code
def yX11_init : MethodName := ⟨RX11, "<init>", "()V"⟩
abbrev cX11_lay : ByteArray := prog_13_method_2_code
def yX11_lay : MethodName := ⟨RX11, "lay", "([J)V"⟩
abbrev cX11_thrown : ByteArray := prog_13_method_3_code
def yX11_thrown : MethodName := ⟨RX11, "thrown", "()I"⟩
abbrev cX11_in : ByteArray := prog_13_method_4_code
def yX11_in : MethodName := ⟨RX11, "in", "(JJJ)Z"⟩
abbrev cX11_no : ByteArray := prog_13_method_5_code
def yX11_no : MethodName := ⟨RX11, "no", "(I)I"⟩
abbrev cX11_fails : ByteArray := prog_13_method_6_code
def yX11_fails : MethodName := ⟨RX11, "fails", "(ZI)Z"⟩
abbrev cX11_isInvestor : ByteArray := prog_13_method_7_code
def yX11_isInvestor : MethodName := ⟨RX11, "isInvestor", "(I)Z"⟩
abbrev cX11_isNoInvestor : ByteArray := prog_13_method_8_code
def yX11_isNoInvestor : MethodName := ⟨RX11, "isNoInvestor", "(I)Z"⟩
abbrev cX11_isNoRequest : ByteArray := prog_13_method_9_code
def yX11_isNoRequest : MethodName := ⟨RX11, "isNoRequest", "(I)Z"⟩
abbrev cX11_copy : ByteArray := prog_13_method_10_code
def yX11_copy : MethodName := ⟨RX11, "copy", "([J[J)V"⟩
abbrev cX11_push : ByteArray := prog_13_method_11_code
def yX11_push : MethodName := ⟨RX11, "push", "()V"⟩
abbrev cX11_remember : ByteArray := prog_13_method_12_code
def yX11_remember : MethodName := ⟨RX11, "remember", "()V"⟩
abbrev cX11_undo : ByteArray := prog_13_method_13_code
def yX11_undo : MethodName := ⟨RX11, "undo", "()I"⟩
abbrev cX11_undoDepth : ByteArray := prog_13_method_14_code
def yX11_undoDepth : MethodName := ⟨RX11, "undoDepth", "()I"⟩
abbrev cX11_seriesAt : ByteArray := prog_13_method_15_code
def yX11_seriesAt : MethodName := ⟨RX11, "seriesAt", "(I)I"⟩
abbrev cX11_lotAt : ByteArray := prog_13_method_16_code
def yX11_lotAt : MethodName := ⟨RX11, "lotAt", "(I)I"⟩
abbrev cX11_requestAt : ByteArray := prog_13_method_17_code
def yX11_requestAt : MethodName := ⟨RX11, "requestAt", "(I)I"⟩
abbrev cX11_placeOf : ByteArray := prog_13_method_18_code
def yX11_placeOf : MethodName := ⟨RX11, "placeOf", "(J)I"⟩
abbrev cX11_seriesOf : ByteArray := prog_13_method_19_code
def yX11_seriesOf : MethodName := ⟨RX11, "seriesOf", "(I)I"⟩
abbrev cX11_gross : ByteArray := prog_13_method_20_code
def yX11_gross : MethodName := ⟨RX11, "gross", "(I)J"⟩
abbrev cX11_worthAt : ByteArray := prog_13_method_21_code
def yX11_worthAt : MethodName := ⟨RX11, "worthAt", "(JJ)J"⟩
abbrev cX11_partOf : ByteArray := prog_13_method_22_code
def yX11_partOf : MethodName := ⟨RX11, "partOf", "(JJJ)J"⟩
abbrev cX11_accrued : ByteArray := prog_13_method_23_code
def yX11_accrued : MethodName := ⟨RX11, "accrued", "(I)J"⟩
abbrev cX11_net : ByteArray := prog_13_method_24_code
def yX11_net : MethodName := ⟨RX11, "net", "(I)J"⟩
abbrev cX11_netAll : ByteArray := prog_13_method_25_code
def yX11_netAll : MethodName := ⟨RX11, "netAll", "()J"⟩
abbrev cX11_accruedAll : ByteArray := prog_13_method_26_code
def yX11_accruedAll : MethodName := ⟨RX11, "accruedAll", "()J"⟩
abbrev cX11_openOne : ByteArray := prog_13_method_27_code
def yX11_openOne : MethodName := ⟨RX11, "openOne", "()I"⟩
abbrev cX11_dropSeries : ByteArray := prog_13_method_28_code
def yX11_dropSeries : MethodName := ⟨RX11, "dropSeries", "(I)V"⟩
abbrev cX11_dropLot : ByteArray := prog_13_method_29_code
def yX11_dropLot : MethodName := ⟨RX11, "dropLot", "(I)V"⟩
abbrev cX11_closeEmpty : ByteArray := prog_13_method_30_code
def yX11_closeEmpty : MethodName := ⟨RX11, "closeEmpty", "()V"⟩
abbrev cX11_dropEmptyLots : ByteArray := prog_13_method_31_code
def yX11_dropEmptyLots : MethodName := ⟨RX11, "dropEmptyLots", "()V"⟩
abbrev cX11_unitsBy : ByteArray := prog_13_method_32_code
def yX11_unitsBy : MethodName := ⟨RX11, "unitsBy", "(I)J"⟩
abbrev cX11_dueOf : ByteArray := prog_13_method_33_code
def yX11_dueOf : MethodName := ⟨RX11, "dueOf", "(IIJ)J"⟩
abbrev cX11_use : ByteArray := prog_13_method_34_code
def yX11_use : MethodName := ⟨RX11, "use", "(IJ)V"⟩
abbrev cX11_redeemFrom : ByteArray := prog_13_method_35_code
def yX11_redeemFrom : MethodName := ⟨RX11, "redeemFrom", "(IJ)J"⟩
abbrev cX11_worthOf : ByteArray := prog_13_method_36_code
def yX11_worthOf : MethodName := ⟨RX11, "worthOf", "(I)J"⟩
abbrev cX11_requestedBy : ByteArray := prog_13_method_37_code
def yX11_requestedBy : MethodName := ⟨RX11, "requestedBy", "(I)J"⟩
abbrev cX11_isRedemption : ByteArray := prog_13_method_38_code
def yX11_isRedemption : MethodName := ⟨RX11, "isRedemption", "(I)Z"⟩
abbrev cX11_requested : ByteArray := prog_13_method_39_code
def yX11_requested : MethodName := ⟨RX11, "requested", "()J"⟩
abbrev cX11_limit : ByteArray := prog_13_method_40_code
def yX11_limit : MethodName := ⟨RX11, "limit", "()J"⟩
abbrev cX11_redeemAll : ByteArray := prog_13_method_41_code
def yX11_redeemAll : MethodName := ⟨RX11, "redeemAll", "()V"⟩
abbrev cX11_subscribeTo : ByteArray := prog_13_method_42_code
def yX11_subscribeTo : MethodName := ⟨RX11, "subscribeTo", "(II)I"⟩
abbrev cX11_subscribeAll : ByteArray := prog_13_method_43_code
def yX11_subscribeAll : MethodName := ⟨RX11, "subscribeAll", "()V"⟩
abbrev cX11_dropRequest : ByteArray := prog_13_method_44_code
def yX11_dropRequest : MethodName := ⟨RX11, "dropRequest", "(I)V"⟩
abbrev cX11_dealNow : ByteArray := prog_13_method_45_code
def yX11_dealNow : MethodName := ⟨RX11, "dealNow", "()I"⟩
abbrev cX11_deal : ByteArray := prog_13_method_46_code
def yX11_deal : MethodName := ⟨RX11, "deal", "()I"⟩
abbrev cX11_ask : ByteArray := prog_13_method_47_code
def yX11_ask : MethodName := ⟨RX11, "ask", "([JIJJ)V"⟩
abbrev cX11_isAmount : ByteArray := prog_13_method_48_code
def yX11_isAmount : MethodName := ⟨RX11, "isAmount", "(I)Z"⟩
abbrev cX11_isUnits : ByteArray := prog_13_method_49_code
def yX11_isUnits : MethodName := ⟨RX11, "isUnits", "(I)Z"⟩
abbrev cX11_isFull : ByteArray := prog_13_method_50_code
def yX11_isFull : MethodName := ⟨RX11, "isFull", "()Z"⟩
abbrev cX11_subscribe : ByteArray := prog_13_method_51_code
def yX11_subscribe : MethodName := ⟨RX11, "subscribe", "(II)I"⟩
abbrev cX11_waitingOf : ByteArray := prog_13_method_52_code
def yX11_waitingOf : MethodName := ⟨RX11, "waitingOf", "(I)J"⟩
abbrev cX11_canRedeem : ByteArray := prog_13_method_53_code
def yX11_canRedeem : MethodName := ⟨RX11, "canRedeem", "(II)Z"⟩
abbrev cX11_redeem : ByteArray := prog_13_method_54_code
def yX11_redeem : MethodName := ⟨RX11, "redeem", "(II)I"⟩
abbrev cX11_withdraw : ByteArray := prog_13_method_55_code
def yX11_withdraw : MethodName := ⟨RX11, "withdraw", "(I)J"⟩
abbrev cX11_gain : ByteArray := prog_13_method_56_code
def yX11_gain : MethodName := ⟨RX11, "gain", "(I)J"⟩
abbrev cX11_isTooMuch : ByteArray := prog_13_method_57_code
def yX11_isTooMuch : MethodName := ⟨RX11, "isTooMuch", "(I)Z"⟩
abbrev cX11_isRate : ByteArray := prog_13_method_58_code
def yX11_isRate : MethodName := ⟨RX11, "isRate", "(I)Z"⟩
abbrev cX11_earn : ByteArray := prog_13_method_59_code
def yX11_earn : MethodName := ⟨RX11, "earn", "(I)J"⟩
abbrev cX11_goDays : ByteArray := prog_13_method_60_code
def yX11_goDays : MethodName := ⟨RX11, "goDays", "(I)J"⟩
abbrev cX11_passDays : ByteArray := prog_13_method_61_code
def yX11_passDays : MethodName := ⟨RX11, "passDays", "(I)J"⟩
abbrev cX11_moves : ByteArray := prog_13_method_62_code
def yX11_moves : MethodName := ⟨RX11, "moves", "(IIJJ)V"⟩
abbrev cX11_equalize : ByteArray := prog_13_method_63_code
def yX11_equalize : MethodName := ⟨RX11, "equalize", "(IIJJ)V"⟩
abbrev cX11_crystallizeOne : ByteArray := prog_13_method_64_code
def yX11_crystallizeOne : MethodName := ⟨RX11, "crystallizeOne", "(I)V"⟩
abbrev cX11_crystallizeAll : ByteArray := prog_13_method_65_code
def yX11_crystallizeAll : MethodName := ⟨RX11, "crystallizeAll", "()J"⟩
abbrev cX11_crystallize : ByteArray := prog_13_method_66_code
def yX11_crystallize : MethodName := ⟨RX11, "crystallize", "()J"⟩
abbrev cX11_mergeOne : ByteArray := prog_13_method_67_code
def yX11_mergeOne : MethodName := ⟨RX11, "mergeOne", "(IIJJ)V"⟩
abbrev cX11_mergeAll : ByteArray := prog_13_method_68_code
def yX11_mergeAll : MethodName := ⟨RX11, "mergeAll", "()I"⟩
abbrev cX11_merge : ByteArray := prog_13_method_69_code
def yX11_merge : MethodName := ⟨RX11, "merge", "()I"⟩
abbrev cX11_splits : ByteArray := prog_13_method_70_code
def yX11_splits : MethodName := ⟨RX11, "splits", "(IJ)Z"⟩
abbrev cX11_cannotMove : ByteArray := prog_13_method_71_code
def yX11_cannotMove : MethodName := ⟨RX11, "cannotMove", "(II)Z"⟩
abbrev cX11_split : ByteArray := prog_13_method_72_code
def yX11_split : MethodName := ⟨RX11, "split", "(IIJ)V"⟩
abbrev cX11_transfer : ByteArray := prog_13_method_73_code
def yX11_transfer : MethodName := ⟨RX11, "transfer", "(III)J"⟩
abbrev cX11_setGate : ByteArray := prog_13_method_74_code
def yX11_setGate : MethodName := ⟨RX11, "setGate", "(I)I"⟩
abbrev cX11_bring : ByteArray := prog_13_method_75_code
def yX11_bring : MethodName := ⟨RX11, "bring", "(I)V"⟩
abbrev cX11_appendText : ByteArray := prog_13_method_76_code
def yX11_appendText : MethodName := ⟨RX11, "appendText", "(IIIII)I"⟩
abbrev cX11_truncateText : ByteArray := prog_13_method_77_code
def yX11_truncateText : MethodName := ⟨RX11, "truncateText", "(I)I"⟩
abbrev cX11_byteAt : ByteArray := prog_13_method_78_code
def yX11_byteAt : MethodName := ⟨RX11, "byteAt", "(I)I"⟩
abbrev cX11_next : ByteArray := prog_13_method_79_code
def yX11_next : MethodName := ⟨RX11, "next", "()V"⟩
abbrev cX11_wrong : ByteArray := prog_13_method_80_code
def yX11_wrong : MethodName := ⟨RX11, "wrong", "(I)V"⟩
abbrev cX11_isWord : ByteArray := prog_13_method_81_code
def yX11_isWord : MethodName := ⟨RX11, "isWord", "(Ljava/lang/String;)Z"⟩
abbrev cX11_pass : ByteArray := prog_13_method_82_code
def yX11_pass : MethodName := ⟨RX11, "pass", "()V"⟩
abbrev cX11_number : ByteArray := prog_13_method_83_code
def yX11_number : MethodName := ⟨RX11, "number", "(JJ)I"⟩
abbrev cX11_must : ByteArray := prog_13_method_84_code
def yX11_must : MethodName := ⟨RX11, "must", "(Ljava/lang/String;)V"⟩
abbrev cX11_begin : ByteArray := prog_13_method_85_code
def yX11_begin : MethodName := ⟨RX11, "begin", "()V"⟩
abbrev cX11_readHead : ByteArray := prog_13_method_86_code
def yX11_readHead : MethodName := ⟨RX11, "readHead", "()V"⟩
abbrev cX11_readSubscription : ByteArray := prog_13_method_87_code
def yX11_readSubscription : MethodName := ⟨RX11, "readSubscription", "()V"⟩
abbrev cX11_parseFund : ByteArray := prog_13_method_88_code
def yX11_parseFund : MethodName := ⟨RX11, "parseFund", "()I"⟩
abbrev cX11_errorCode : ByteArray := prog_13_method_89_code
def yX11_errorCode : MethodName := ⟨RX11, "errorCode", "()I"⟩
abbrev cX11_errorPosition : ByteArray := prog_13_method_90_code
def yX11_errorPosition : MethodName := ⟨RX11, "errorPosition", "()I"⟩
abbrev cX11_operation : ByteArray := prog_13_method_91_code
def yX11_operation : MethodName := ⟨RX11, "operation", "()I"⟩
abbrev cX11_doesEarn : ByteArray := prog_13_method_92_code
def yX11_doesEarn : MethodName := ⟨RX11, "doesEarn", "(I)Z"⟩
abbrev cX11_doesAsk : ByteArray := prog_13_method_93_code
def yX11_doesAsk : MethodName := ⟨RX11, "doesAsk", "(Z)Z"⟩
abbrev cX11_does : ByteArray := prog_13_method_94_code
def yX11_does : MethodName := ⟨RX11, "does", "(I)Z"⟩
abbrev cX11_goesThrough : ByteArray := prog_13_method_95_code
def yX11_goesThrough : MethodName := ⟨RX11, "goesThrough", "()V"⟩
abbrev cX11_runScript : ByteArray := prog_13_method_96_code
def yX11_runScript : MethodName := ⟨RX11, "runScript", "()I"⟩
abbrev cX11_count : ByteArray := prog_13_method_97_code
def yX11_count : MethodName := ⟨RX11, "count", "(I)I"⟩
abbrev cX11_netAssets : ByteArray := prog_13_method_98_code
def yX11_netAssets : MethodName := ⟨RX11, "netAssets", "()J"⟩
abbrev cX11_account : ByteArray := prog_13_method_99_code
def yX11_account : MethodName := ⟨RX11, "account", "(I)J"⟩
abbrev cX11_openSeries : ByteArray := prog_13_method_100_code
def yX11_openSeries : MethodName := ⟨RX11, "openSeries", "(I)I"⟩
abbrev cX11_lotsIn : ByteArray := prog_13_method_101_code
def yX11_lotsIn : MethodName := ⟨RX11, "lotsIn", "(I)J"⟩
abbrev cX11_seriesValue : ByteArray := prog_13_method_102_code
def yX11_seriesValue : MethodName := ⟨RX11, "seriesValue", "(II)J"⟩
abbrev cX11_lot : ByteArray := prog_13_method_103_code
def yX11_lot : MethodName := ⟨RX11, "lot", "(II)J"⟩
abbrev cX11_request : ByteArray := prog_13_method_104_code
def yX11_request : MethodName := ⟨RX11, "request", "(II)J"⟩
abbrev cX11_unitsOf : ByteArray := prog_13_method_105_code
def yX11_unitsOf : MethodName := ⟨RX11, "unitsOf", "(I)J"⟩
abbrev cX11_heldIn : ByteArray := prog_13_method_106_code
def yX11_heldIn : MethodName := ⟨RX11, "heldIn", "(IJ)J"⟩
abbrev cX11_holding : ByteArray := prog_13_method_107_code
def yX11_holding : MethodName := ⟨RX11, "holding", "(II)J"⟩
abbrev cX11_valueOf : ByteArray := prog_13_method_108_code
def yX11_valueOf : MethodName := ⟨RX11, "valueOf", "(I)J"⟩
abbrev cX11_richest : ByteArray := prog_13_method_109_code
def yX11_richest : MethodName := ⟨RX11, "richest", "(I)I"⟩
abbrev cX11_share : ByteArray := prog_13_method_110_code
def yX11_share : MethodName := ⟨RX11, "share", "(I)D"⟩
abbrev cX11_requestedValue : ByteArray := prog_13_method_111_code
def yX11_requestedValue : MethodName := ⟨RX11, "requestedValue", "()J"⟩
abbrev cX11_gateLimit : ByteArray := prog_13_method_112_code
def yX11_gateLimit : MethodName := ⟨RX11, "gateLimit", "()J"⟩
abbrev cX11_wouldRedeem : ByteArray := prog_13_method_113_code
def yX11_wouldRedeem : MethodName := ⟨RX11, "wouldRedeem", "(I)J"⟩
abbrev cX11_dealBy : ByteArray := prog_13_method_114_code
def yX11_dealBy : MethodName := ⟨RX11, "dealBy", "(I)I"⟩
abbrev cX11_dealsUntilDone : ByteArray := prog_13_method_115_code
def yX11_dealsUntilDone : MethodName := ⟨RX11, "dealsUntilDone", "(I)I"⟩
abbrev cX11_feesIf : ByteArray := prog_13_method_116_code
def yX11_feesIf : MethodName := ⟨RX11, "feesIf", "(I)J"⟩
abbrev cX11_breakEven : ByteArray := prog_13_method_117_code
def yX11_breakEven : MethodName := ⟨RX11, "breakEven", "(I)I"⟩
abbrev cX11_worthBy : ByteArray := prog_13_method_118_code
def yX11_worthBy : MethodName := ⟨RX11, "worthBy", "(II)J"⟩
abbrev cX11_usedUp : ByteArray := prog_13_method_119_code
def yX11_usedUp : MethodName := ⟨RX11, "usedUp", "(I)J"⟩
abbrev cX11_rateFor : ByteArray := prog_13_method_120_code
def yX11_rateFor : MethodName := ⟨RX11, "rateFor", "(IJ)I"⟩
abbrev cX11_daysUntil : ByteArray := prog_13_method_121_code
def yX11_daysUntil : MethodName := ⟨RX11, "daysUntil", "(J)I"⟩
abbrev cX11_wouldCrystallize : ByteArray := prog_13_method_122_code
def yX11_wouldCrystallize : MethodName := ⟨RX11, "wouldCrystallize", "()J"⟩
abbrev cX11_wouldMerge : ByteArray := prog_13_method_123_code
def yX11_wouldMerge : MethodName := ⟨RX11, "wouldMerge", "()I"⟩
abbrev cX11_bestGate : ByteArray := prog_13_method_124_code
def yX11_bestGate : MethodName := ⟨RX11, "bestGate", "(I)I"⟩
abbrev cX11_print : ByteArray := prog_13_method_125_code
def yX11_print : MethodName := ⟨RX11, "print", "(C)V"⟩
abbrev cX11_printWord : ByteArray := prog_13_method_126_code
def yX11_printWord : MethodName := ⟨RX11, "printWord", "(Ljava/lang/String;)V"⟩
abbrev cX11_printNumber : ByteArray := prog_13_method_127_code
def yX11_printNumber : MethodName := ⟨RX11, "printNumber", "(J)V"⟩
abbrev cX11_printSeries : ByteArray := prog_13_method_128_code
def yX11_printSeries : MethodName := ⟨RX11, "printSeries", "(I)V"⟩
abbrev cX11_writeReport : ByteArray := prog_13_method_129_code
def yX11_writeReport : MethodName := ⟨RX11, "writeReport", "()I"⟩
abbrev cX11_reportByte : ByteArray := prog_13_method_130_code
def yX11_reportByte : MethodName := ⟨RX11, "reportByte", "(I)I"⟩
def RJx145de : String := "java/io/Serializable"
def TJx145de : u_T := fun k => match k with
  | _ => ("", "", "", false)
def tyJx145de : Nat → FieldType := fun k => match k with
  | _ => .int
theorem nmJx145de : ∀ a, a < 0 → ∀ b, b < 0 → a ≠ b → (TJx145de a).2.1 ≠ (TJx145de b).2.1 := by decide +kernel
theorem tyJx145de_ok : ∀ k, k < 0 → parseFieldDescriptor (TJx145de k).2.2.1 = some (tyJx145de k) := by decide +kernel
def RJx00060 : String := "java/lang/ArrayIndexOutOfBoundsException"
def TJx00060 : u_T := fun k => match k with
  | 0 => ("java/lang/Throwable", "backtrace", "Ljava/lang/Object;", false)
  | 1 => ("java/lang/Throwable", "detailMessage", "Ljava/lang/String;", false)
  | 2 => ("java/lang/Throwable", "cause", "Ljava/lang/Throwable;", false)
  | 3 => ("java/lang/Throwable", "stackTrace", "[Ljava/lang/StackTraceElement;", false)
  | 4 => ("java/lang/Throwable", "depth", "I", false)
  | _ => ("java/lang/Throwable", "suppressedExceptions", "Ljava/util/List;", false)
def tyJx00060 : Nat → FieldType := fun k => match k with
  | 0 => .object "java/lang/Object"
  | 1 => .object "java/lang/String"
  | 2 => .object "java/lang/Throwable"
  | 3 => .array (.object "java/lang/StackTraceElement")
  | 4 => .int
  | _ => .object "java/util/List"
theorem nmJx00060 : ∀ a, a < 6 → ∀ b, b < 6 → a ≠ b → (TJx00060 a).2.1 ≠ (TJx00060 b).2.1 := by decide +kernel
theorem tyJx00060_ok : ∀ k, k < 6 → parseFieldDescriptor (TJx00060 k).2.2.1 = some (tyJx00060 k) := by decide +kernel
abbrev cJx00060_init_a7421 : ByteArray := prog_16_method_2_code
def yJx00060_init_a7421 : MethodName := ⟨RJx00060, "<init>", "(Ljava/lang/String;)V"⟩
def RJx9f9b0 : String := "java/lang/CharSequence"
def TJx9f9b0 : u_T := fun k => match k with
  | _ => ("", "", "", false)
def tyJx9f9b0 : Nat → FieldType := fun k => match k with
  | _ => .int
theorem nmJx9f9b0 : ∀ a, a < 0 → ∀ b, b < 0 → a ≠ b → (TJx9f9b0 a).2.1 ≠ (TJx9f9b0 b).2.1 := by decide +kernel
theorem tyJx9f9b0_ok : ∀ k, k < 0 → parseFieldDescriptor (TJx9f9b0 k).2.2.1 = some (tyJx9f9b0 k) := by decide +kernel
def RJxb160c : String := "java/lang/Comparable"
def TJxb160c : u_T := fun k => match k with
  | _ => ("", "", "", false)
def tyJxb160c : Nat → FieldType := fun k => match k with
  | _ => .int
theorem nmJxb160c : ∀ a, a < 0 → ∀ b, b < 0 → a ≠ b → (TJxb160c a).2.1 ≠ (TJxb160c b).2.1 := by decide +kernel
theorem tyJxb160c_ok : ∀ k, k < 0 → parseFieldDescriptor (TJxb160c k).2.2.1 = some (tyJxb160c k) := by decide +kernel
def RJ9 : String := "java/lang/Math"
def TJ9 : u_T := fun k => match k with
  | _ => ("", "", "", false)
def tyJ9 : Nat → FieldType := fun k => match k with
  | _ => .int
theorem nmJ9 : ∀ a, a < 0 → ∀ b, b < 0 → a ≠ b → (TJ9 a).2.1 ≠ (TJ9 b).2.1 := by decide +kernel
theorem tyJ9_ok : ∀ k, k < 0 → parseFieldDescriptor (TJ9 k).2.2.1 = some (tyJ9 k) := by decide +kernel
abbrev cJ9_floorDiv_7cf53 : ByteArray := prog_23_method_47_code
def yJ9_floorDiv_7cf53 : MethodName := ⟨RJ9, "floorDiv", "(II)I"⟩
abbrev cJ9_abs_067f4 : ByteArray := prog_23_method_61_code
def yJ9_abs_067f4 : MethodName := ⟨RJ9, "abs", "(J)J"⟩
abbrev cJ9_min_7cf53 : ByteArray := prog_23_method_69_code
def yJ9_min_7cf53 : MethodName := ⟨RJ9, "min", "(II)I"⟩
abbrev cJ9_min_f86c9 : ByteArray := prog_23_method_70_code
def yJ9_min_f86c9 : MethodName := ⟨RJ9, "min", "(JJ)J"⟩
def RJ0 : String := "java/lang/String"
def TJ0 : u_T := fun k => match k with
  | 0 => ("java/lang/String", "value", "[B", true)
  | _ => ("java/lang/String", "coder", "B", true)
def tyJ0 : Nat → FieldType := fun k => match k with
  | 0 => .array .byte
  | _ => .byte
theorem nmJ0 : ∀ a, a < 2 → ∀ b, b < 2 → a ≠ b → (TJ0 a).2.1 ≠ (TJ0 b).2.1 := by decide +kernel
theorem tyJ0_ok : ∀ k, k < 2 → parseFieldDescriptor (TJ0 k).2.2.1 = some (tyJ0 k) := by decide +kernel
abbrev cJ0_length_8abf5 : ByteArray := prog_25_method_54_code
def yJ0_length_8abf5 : MethodName := ⟨RJ0, "length", "()I"⟩
abbrev cJ0_charAt_5068e : ByteArray := prog_25_method_56_code
def yJ0_charAt_5068e : MethodName := ⟨RJ0, "charAt", "(I)C"⟩
abbrev cJ0_coder_7d493 : ByteArray := prog_25_method_152_code
def yJ0_coder_7d493 : MethodName := ⟨RJ0, "coder", "()B"⟩
abbrev cJ0_isLatin1_aae02 : ByteArray := prog_25_method_154_code
def yJ0_isLatin1_aae02 : MethodName := ⟨RJ0, "isLatin1", "()Z"⟩
abbrev cJ0_checkIndex_df160 : ByteArray := prog_25_method_155_code
def yJ0_checkIndex_df160 : MethodName := ⟨RJ0, "checkIndex", "(II)V"⟩
def RJ1 : String := "java/lang/StringLatin1"
def TJ1 : u_T := fun k => match k with
  | _ => ("", "", "", false)
def tyJ1 : Nat → FieldType := fun k => match k with
  | _ => .int
theorem nmJ1 : ∀ a, a < 0 → ∀ b, b < 0 → a ≠ b → (TJ1 a).2.1 ≠ (TJ1 b).2.1 := by decide +kernel
theorem tyJ1_ok : ∀ k, k < 0 → parseFieldDescriptor (TJ1 k).2.2.1 = some (tyJ1 k) := by decide +kernel
abbrev cJ1_charAt_3b067 : ByteArray := prog_26_method_2_code
def yJ1_charAt_3b067 : MethodName := ⟨RJ1, "charAt", "([BI)C"⟩
def RJ2 : String := "java/lang/StringUTF16"
def TJ2 : u_T := fun k => match k with
  | _ => ("", "", "", false)
def tyJ2 : Nat → FieldType := fun k => match k with
  | _ => .int
theorem nmJ2 : ∀ a, a < 0 → ∀ b, b < 0 → a ≠ b → (TJ2 a).2.1 ≠ (TJ2 b).2.1 := by decide +kernel
theorem tyJ2_ok : ∀ k, k < 0 → parseFieldDescriptor (TJ2 k).2.2.1 = some (tyJ2 k) := by decide +kernel
abbrev cJ2_getChar_3b067 : ByteArray := prog_27_method_5_code
def yJ2_getChar_3b067 : MethodName := ⟨RJ2, "getChar", "([BI)C"⟩
abbrev cJ2_length_9d52b : ByteArray := prog_27_method_6_code
def yJ2_length_9d52b : MethodName := ⟨RJ2, "length", "([B)I"⟩
abbrev cJ2_charAt_3b067 : ByteArray := prog_27_method_83_code
def yJ2_charAt_3b067 : MethodName := ⟨RJ2, "charAt", "([BI)C"⟩
abbrev cJ2_checkIndex_2214a : ByteArray := prog_27_method_91_code
def yJ2_checkIndex_2214a : MethodName := ⟨RJ2, "checkIndex", "(I[B)V"⟩
def RJxfd54e : String := "java/lang/constant/Constable"
def TJxfd54e : u_T := fun k => match k with
  | _ => ("", "", "", false)
def tyJxfd54e : Nat → FieldType := fun k => match k with
  | _ => .int
theorem nmJxfd54e : ∀ a, a < 0 → ∀ b, b < 0 → a ≠ b → (TJxfd54e a).2.1 ≠ (TJxfd54e b).2.1 := by decide +kernel
theorem tyJxfd54e_ok : ∀ k, k < 0 → parseFieldDescriptor (TJxfd54e k).2.2.1 = some (tyJxfd54e k) := by decide +kernel
def RJx3cf43 : String := "java/lang/constant/ConstantDesc"
def TJx3cf43 : u_T := fun k => match k with
  | _ => ("", "", "", false)
def tyJx3cf43 : Nat → FieldType := fun k => match k with
  | _ => .int
theorem nmJx3cf43 : ∀ a, a < 0 → ∀ b, b < 0 → a ≠ b → (TJx3cf43 a).2.1 ≠ (TJx3cf43 b).2.1 := by decide +kernel
theorem tyJx3cf43_ok : ∀ k, k < 0 → parseFieldDescriptor (TJx3cf43 k).2.2.1 = some (tyJx3cf43 k) := by decide +kernel
def RJ3 : String := "jdk/internal/util/Preconditions"
def TJ3 : u_T := fun k => match k with
  | _ => ("", "", "", false)
def tyJ3 : Nat → FieldType := fun k => match k with
  | _ => .int
theorem nmJ3 : ∀ a, a < 0 → ∀ b, b < 0 → a ≠ b → (TJ3 a).2.1 ≠ (TJ3 b).2.1 := by decide +kernel
theorem tyJ3_ok : ∀ k, k < 0 → parseFieldDescriptor (TJ3 k).2.2.1 = some (tyJ3 k) := by decide +kernel
abbrev cJ3_checkIndex_8e157 : ByteArray := prog_32_method_11_code
def yJ3_checkIndex_8e157 : MethodName := ⟨RJ3, "checkIndex", "(IILjava/util/function/BiFunction;)I"⟩
def RL : String := "SeriesFundLaw"
abbrev cL_appendText : ByteArray := method_3_code
def yL_appendText : MethodName := ⟨RL, "appendText", "(LSeriesFund;IIIII[J)I"⟩
abbrev cL_truncateText : ByteArray := method_4_code
def yL_truncateText : MethodName := ⟨RL, "truncateText", "(LSeriesFund;I[J)I"⟩
abbrev cL_subscribe : ByteArray := method_5_code
def yL_subscribe : MethodName := ⟨RL, "subscribe", "(LSeriesFund;II[J)I"⟩
abbrev cL_redeem : ByteArray := method_6_code
def yL_redeem : MethodName := ⟨RL, "redeem", "(LSeriesFund;II[J)I"⟩
abbrev cL_withdraw : ByteArray := method_7_code
def yL_withdraw : MethodName := ⟨RL, "withdraw", "(LSeriesFund;I[J)I"⟩
abbrev cL_earn : ByteArray := method_8_code
def yL_earn : MethodName := ⟨RL, "earn", "(LSeriesFund;I[J)I"⟩
abbrev cL_passDays : ByteArray := method_9_code
def yL_passDays : MethodName := ⟨RL, "passDays", "(LSeriesFund;I[J)I"⟩
abbrev cL_transfer : ByteArray := method_10_code
def yL_transfer : MethodName := ⟨RL, "transfer", "(LSeriesFund;III[J)I"⟩
abbrev cL_setGate : ByteArray := method_11_code
def yL_setGate : MethodName := ⟨RL, "setGate", "(LSeriesFund;I[J)I"⟩
abbrev cL_count : ByteArray := method_12_code
def yL_count : MethodName := ⟨RL, "count", "(LSeriesFund;I[J)I"⟩
abbrev cL_account : ByteArray := method_13_code
def yL_account : MethodName := ⟨RL, "account", "(LSeriesFund;I[J)I"⟩
abbrev cL_openSeries : ByteArray := method_14_code
def yL_openSeries : MethodName := ⟨RL, "openSeries", "(LSeriesFund;I[J)I"⟩
abbrev cL_seriesValue : ByteArray := method_15_code
def yL_seriesValue : MethodName := ⟨RL, "seriesValue", "(LSeriesFund;II[J)I"⟩
abbrev cL_lot : ByteArray := method_16_code
def yL_lot : MethodName := ⟨RL, "lot", "(LSeriesFund;II[J)I"⟩
abbrev cL_request : ByteArray := method_17_code
def yL_request : MethodName := ⟨RL, "request", "(LSeriesFund;II[J)I"⟩
abbrev cL_unitsOf : ByteArray := method_18_code
def yL_unitsOf : MethodName := ⟨RL, "unitsOf", "(LSeriesFund;I[J)I"⟩
abbrev cL_holding : ByteArray := method_19_code
def yL_holding : MethodName := ⟨RL, "holding", "(LSeriesFund;II[J)I"⟩
abbrev cL_valueOf : ByteArray := method_20_code
def yL_valueOf : MethodName := ⟨RL, "valueOf", "(LSeriesFund;I[J)I"⟩
abbrev cL_richest : ByteArray := method_21_code
def yL_richest : MethodName := ⟨RL, "richest", "(LSeriesFund;I[J)I"⟩
abbrev cL_share : ByteArray := method_22_code
def yL_share : MethodName := ⟨RL, "share", "(LSeriesFund;I[D)I"⟩
abbrev cL_wouldRedeem : ByteArray := method_23_code
def yL_wouldRedeem : MethodName := ⟨RL, "wouldRedeem", "(LSeriesFund;I[J)I"⟩
abbrev cL_dealsUntilDone : ByteArray := method_24_code
def yL_dealsUntilDone : MethodName := ⟨RL, "dealsUntilDone", "(LSeriesFund;I[J)I"⟩
abbrev cL_feesIf : ByteArray := method_25_code
def yL_feesIf : MethodName := ⟨RL, "feesIf", "(LSeriesFund;I[J)I"⟩
abbrev cL_breakEven : ByteArray := method_26_code
def yL_breakEven : MethodName := ⟨RL, "breakEven", "(LSeriesFund;I[J)I"⟩
abbrev cL_rateFor : ByteArray := method_27_code
def yL_rateFor : MethodName := ⟨RL, "rateFor", "(LSeriesFund;IJ[J)I"⟩
abbrev cL_daysUntil : ByteArray := method_28_code
def yL_daysUntil : MethodName := ⟨RL, "daysUntil", "(LSeriesFund;J[J)I"⟩
abbrev cL_bestGate : ByteArray := method_29_code
def yL_bestGate : MethodName := ⟨RL, "bestGate", "(LSeriesFund;I[J)I"⟩
abbrev cL_reportByte : ByteArray := method_30_code
def yL_reportByte : MethodName := ⟨RL, "reportByte", "(LSeriesFund;I[J)I"⟩
abbrev cL_undo : ByteArray := method_31_code
def yL_undo : MethodName := ⟨RL, "undo", "(LSeriesFund;[J)I"⟩
abbrev cL_law : ByteArray := code
def yL_law : MethodName := ⟨RL, "law", "([I)Z"⟩
theorem dX0_init_0 : decode cX0_init 0 = .ok (.aload_n 0, 1) := by decide +kernel
theorem dX0_init_1 : decode cX0_init 1 = .ok (.invokespecial 3, 3) := by decide +kernel
theorem dX0_init_4 : decode cX0_init 4 = .ok (.aload_n 0, 1) := by decide +kernel
theorem dX0_init_5 : decode cX0_init 5 = .ok (.iconst 1, 1) := by decide +kernel
theorem dX0_init_6 : decode cX0_init 6 = .ok (.putfield 9, 3) := by decide +kernel
theorem dX0_init_9 : decode cX0_init 9 = .ok (.aload_n 0, 1) := by decide +kernel
theorem dX0_init_10 : decode cX0_init 10 = .ok (.iconst 0, 1) := by decide +kernel
theorem dX0_init_11 : decode cX0_init 11 = .ok (.putfield 15, 3) := by decide +kernel
theorem dX0_init_14 : decode cX0_init 14 = .ok (.aload_n 0, 1) := by decide +kernel
theorem dX0_init_15 : decode cX0_init 15 = .ok (.iconst 0, 1) := by decide +kernel
theorem dX0_init_16 : decode cX0_init 16 = .ok (.putfield 18, 3) := by decide +kernel
theorem dX0_init_19 : decode cX0_init 19 = .ok (.aload_n 0, 1) := by decide +kernel
theorem dX0_init_20 : decode cX0_init 20 = .ok (.iconst 0, 1) := by decide +kernel
theorem dX0_init_21 : decode cX0_init 21 = .ok (.putfield 21, 3) := by decide +kernel
theorem dX0_init_24 : decode cX0_init 24 = .ok (.aload_n 0, 1) := by decide +kernel
theorem dX0_init_25 : decode cX0_init 25 = .ok (.bipush 100, 2) := by decide +kernel
theorem dX0_init_27 : decode cX0_init 27 = .ok (.putfield 24, 3) := by decide +kernel
theorem dX0_init_30 : decode cX0_init 30 = .ok (.aload_n 0, 1) := by decide +kernel
theorem dX0_init_31 : decode cX0_init 31 = .ok (.iconst 0, 1) := by decide +kernel
theorem dX0_init_32 : decode cX0_init 32 = .ok (.putfield 27, 3) := by decide +kernel
theorem dX0_init_35 : decode cX0_init 35 = .ok (.aload_n 0, 1) := by decide +kernel
theorem dX0_init_36 : decode cX0_init 36 = .ok (.iconst 0, 1) := by decide +kernel
theorem dX0_init_37 : decode cX0_init 37 = .ok (.putfield 30, 3) := by decide +kernel
theorem dX0_init_40 : decode cX0_init 40 = .ok (.aload_n 0, 1) := by decide +kernel
theorem dX0_init_41 : decode cX0_init 41 = .ok (.iconst 0, 1) := by decide +kernel
theorem dX0_init_42 : decode cX0_init 42 = .ok (.putfield 33, 3) := by decide +kernel
theorem dX0_init_45 : decode cX0_init 45 = .ok (.aload_n 0, 1) := by decide +kernel
theorem dX0_init_46 : decode cX0_init 46 = .ok (.iconst 0, 1) := by decide +kernel
theorem dX0_init_47 : decode cX0_init 47 = .ok (.putfield 36, 3) := by decide +kernel
theorem dX0_init_50 : decode cX0_init 50 = .ok (.aload_n 0, 1) := by decide +kernel
theorem dX0_init_51 : decode cX0_init 51 = .ok (.iconst 0, 1) := by decide +kernel
theorem dX0_init_52 : decode cX0_init 52 = .ok (.putfield 39, 3) := by decide +kernel
theorem dX0_init_55 : decode cX0_init 55 = .ok (.aload_n 0, 1) := by decide +kernel
theorem dX0_init_56 : decode cX0_init 56 = .ok (.bipush 6, 2) := by decide +kernel
theorem dX0_init_58 : decode cX0_init 58 = .ok (.newarray .long, 2) := by decide +kernel
theorem dX0_init_60 : decode cX0_init 60 = .ok (.putfield 42, 3) := by decide +kernel
theorem dX0_init_63 : decode cX0_init 63 = .ok (.aload_n 0, 1) := by decide +kernel
theorem dX0_init_64 : decode cX0_init 64 = .ok (.bipush 6, 2) := by decide +kernel
theorem dX0_init_66 : decode cX0_init 66 = .ok (.anewarray 46, 3) := by decide +kernel
theorem dX0_init_69 : decode cX0_init 69 = .ok (.putfield 48, 3) := by decide +kernel
theorem dX0_init_72 : decode cX0_init 72 = .ok (.aload_n 0, 1) := by decide +kernel
theorem dX0_init_73 : decode cX0_init 73 = .ok (.bipush 40, 2) := by decide +kernel
theorem dX0_init_75 : decode cX0_init 75 = .ok (.anewarray 52, 3) := by decide +kernel
theorem dX0_init_78 : decode cX0_init 78 = .ok (.putfield 54, 3) := by decide +kernel
theorem dX0_init_81 : decode cX0_init 81 = .ok (.aload_n 0, 1) := by decide +kernel
theorem dX0_init_82 : decode cX0_init 82 = .ok (.bipush 12, 2) := by decide +kernel
theorem dX0_init_84 : decode cX0_init 84 = .ok (.anewarray 58, 3) := by decide +kernel
theorem dX0_init_87 : decode cX0_init 87 = .ok (.putfield 60, 3) := by decide +kernel
theorem dX0_init_90 : decode cX0_init 90 = .ok (.iconst 0, 1) := by decide +kernel
theorem dX0_init_91 : decode cX0_init 91 = .ok (.istore_n 1, 1) := by decide +kernel
theorem dX0_init_92 : decode cX0_init 92 = .ok (.iload_n 1, 1) := by decide +kernel
theorem dX0_init_93 : decode cX0_init 93 = .ok (.bipush 6, 2) := by decide +kernel
theorem dX0_init_95 : decode cX0_init 95 = .ok (.if_icmp .ge 22, 3) := by decide +kernel
theorem dX0_init_98 : decode cX0_init 98 = .ok (.aload_n 0, 1) := by decide +kernel
theorem dX0_init_99 : decode cX0_init 99 = .ok (.getfield 48, 3) := by decide +kernel
theorem dX0_init_102 : decode cX0_init 102 = .ok (.iload_n 1, 1) := by decide +kernel
theorem dX0_init_103 : decode cX0_init 103 = .ok (.new 46, 3) := by decide +kernel
theorem dX0_init_106 : decode cX0_init 106 = .ok (.dup, 1) := by decide +kernel
theorem dX0_init_107 : decode cX0_init 107 = .ok (.invokespecial 64, 3) := by decide +kernel
theorem dX0_init_110 : decode cX0_init 110 = .ok (.aastore, 1) := by decide +kernel
theorem dX0_init_111 : decode cX0_init 111 = .ok (.iinc 1 1, 3) := by decide +kernel
theorem dX0_init_114 : decode cX0_init 114 = .ok (.goto (-22), 3) := by decide +kernel
theorem dX0_init_117 : decode cX0_init 117 = .ok (.iconst 0, 1) := by decide +kernel
theorem dX0_init_118 : decode cX0_init 118 = .ok (.istore_n 1, 1) := by decide +kernel
theorem dX0_init_119 : decode cX0_init 119 = .ok (.iload_n 1, 1) := by decide +kernel
theorem dX0_init_120 : decode cX0_init 120 = .ok (.bipush 40, 2) := by decide +kernel
theorem dX0_init_122 : decode cX0_init 122 = .ok (.if_icmp .ge 22, 3) := by decide +kernel
theorem dX0_init_125 : decode cX0_init 125 = .ok (.aload_n 0, 1) := by decide +kernel
theorem dX0_init_126 : decode cX0_init 126 = .ok (.getfield 54, 3) := by decide +kernel
theorem dX0_init_129 : decode cX0_init 129 = .ok (.iload_n 1, 1) := by decide +kernel
theorem dX0_init_130 : decode cX0_init 130 = .ok (.new 52, 3) := by decide +kernel
theorem dX0_init_133 : decode cX0_init 133 = .ok (.dup, 1) := by decide +kernel
theorem dX0_init_134 : decode cX0_init 134 = .ok (.invokespecial 65, 3) := by decide +kernel
theorem dX0_init_137 : decode cX0_init 137 = .ok (.aastore, 1) := by decide +kernel
theorem dX0_init_138 : decode cX0_init 138 = .ok (.iinc 1 1, 3) := by decide +kernel
theorem dX0_init_141 : decode cX0_init 141 = .ok (.goto (-22), 3) := by decide +kernel
theorem dX0_init_144 : decode cX0_init 144 = .ok (.iconst 0, 1) := by decide +kernel
theorem dX0_init_145 : decode cX0_init 145 = .ok (.istore_n 1, 1) := by decide +kernel
theorem dX0_init_146 : decode cX0_init 146 = .ok (.iload_n 1, 1) := by decide +kernel
theorem dX0_init_147 : decode cX0_init 147 = .ok (.bipush 12, 2) := by decide +kernel
theorem dX0_init_149 : decode cX0_init 149 = .ok (.if_icmp .ge 22, 3) := by decide +kernel
theorem dX0_init_152 : decode cX0_init 152 = .ok (.aload_n 0, 1) := by decide +kernel
theorem dX0_init_153 : decode cX0_init 153 = .ok (.getfield 60, 3) := by decide +kernel
theorem dX0_init_156 : decode cX0_init 156 = .ok (.iload_n 1, 1) := by decide +kernel
theorem dX0_init_157 : decode cX0_init 157 = .ok (.new 58, 3) := by decide +kernel
theorem dX0_init_160 : decode cX0_init 160 = .ok (.dup, 1) := by decide +kernel
theorem dX0_init_161 : decode cX0_init 161 = .ok (.invokespecial 66, 3) := by decide +kernel
theorem dX0_init_164 : decode cX0_init 164 = .ok (.aastore, 1) := by decide +kernel
theorem dX0_init_165 : decode cX0_init 165 = .ok (.iinc 1 1, 3) := by decide +kernel
theorem dX0_init_168 : decode cX0_init 168 = .ok (.goto (-22), 3) := by decide +kernel
theorem dX0_init_171 : decode cX0_init 171 = .ok (.return_, 1) := by decide +kernel
theorem dX0_copyFrom_0 : decode cX0_copyFrom 0 = .ok (.aload_n 0, 1) := by decide +kernel
theorem dX0_copyFrom_1 : decode cX0_copyFrom 1 = .ok (.aload_n 1, 1) := by decide +kernel
theorem dX0_copyFrom_2 : decode cX0_copyFrom 2 = .ok (.getfield 9, 3) := by decide +kernel
theorem dX0_copyFrom_5 : decode cX0_copyFrom 5 = .ok (.putfield 9, 3) := by decide +kernel
theorem dX0_copyFrom_8 : decode cX0_copyFrom 8 = .ok (.aload_n 0, 1) := by decide +kernel
theorem dX0_copyFrom_9 : decode cX0_copyFrom 9 = .ok (.aload_n 1, 1) := by decide +kernel
theorem dX0_copyFrom_10 : decode cX0_copyFrom 10 = .ok (.getfield 15, 3) := by decide +kernel
theorem dX0_copyFrom_13 : decode cX0_copyFrom 13 = .ok (.putfield 15, 3) := by decide +kernel
theorem dX0_copyFrom_16 : decode cX0_copyFrom 16 = .ok (.aload_n 0, 1) := by decide +kernel
theorem dX0_copyFrom_17 : decode cX0_copyFrom 17 = .ok (.aload_n 1, 1) := by decide +kernel
theorem dX0_copyFrom_18 : decode cX0_copyFrom 18 = .ok (.getfield 18, 3) := by decide +kernel
theorem dX0_copyFrom_21 : decode cX0_copyFrom 21 = .ok (.putfield 18, 3) := by decide +kernel
theorem dX0_copyFrom_24 : decode cX0_copyFrom 24 = .ok (.aload_n 0, 1) := by decide +kernel
theorem dX0_copyFrom_25 : decode cX0_copyFrom 25 = .ok (.aload_n 1, 1) := by decide +kernel
theorem dX0_copyFrom_26 : decode cX0_copyFrom 26 = .ok (.getfield 21, 3) := by decide +kernel
theorem dX0_copyFrom_29 : decode cX0_copyFrom 29 = .ok (.putfield 21, 3) := by decide +kernel
theorem dX0_copyFrom_32 : decode cX0_copyFrom 32 = .ok (.aload_n 0, 1) := by decide +kernel
theorem dX0_copyFrom_33 : decode cX0_copyFrom 33 = .ok (.aload_n 1, 1) := by decide +kernel
theorem dX0_copyFrom_34 : decode cX0_copyFrom 34 = .ok (.getfield 24, 3) := by decide +kernel
theorem dX0_copyFrom_37 : decode cX0_copyFrom 37 = .ok (.putfield 24, 3) := by decide +kernel
theorem dX0_copyFrom_40 : decode cX0_copyFrom 40 = .ok (.aload_n 0, 1) := by decide +kernel
theorem dX0_copyFrom_41 : decode cX0_copyFrom 41 = .ok (.aload_n 1, 1) := by decide +kernel
theorem dX0_copyFrom_42 : decode cX0_copyFrom 42 = .ok (.getfield 27, 3) := by decide +kernel
theorem dX0_copyFrom_45 : decode cX0_copyFrom 45 = .ok (.putfield 27, 3) := by decide +kernel
theorem dX0_copyFrom_48 : decode cX0_copyFrom 48 = .ok (.aload_n 0, 1) := by decide +kernel
theorem dX0_copyFrom_49 : decode cX0_copyFrom 49 = .ok (.aload_n 1, 1) := by decide +kernel
theorem dX0_copyFrom_50 : decode cX0_copyFrom 50 = .ok (.getfield 30, 3) := by decide +kernel
theorem dX0_copyFrom_53 : decode cX0_copyFrom 53 = .ok (.putfield 30, 3) := by decide +kernel
theorem dX0_copyFrom_56 : decode cX0_copyFrom 56 = .ok (.aload_n 0, 1) := by decide +kernel
theorem dX0_copyFrom_57 : decode cX0_copyFrom 57 = .ok (.aload_n 1, 1) := by decide +kernel
theorem dX0_copyFrom_58 : decode cX0_copyFrom 58 = .ok (.getfield 33, 3) := by decide +kernel
theorem dX0_copyFrom_61 : decode cX0_copyFrom 61 = .ok (.putfield 33, 3) := by decide +kernel
theorem dX0_copyFrom_64 : decode cX0_copyFrom 64 = .ok (.aload_n 0, 1) := by decide +kernel
theorem dX0_copyFrom_65 : decode cX0_copyFrom 65 = .ok (.aload_n 1, 1) := by decide +kernel
theorem dX0_copyFrom_66 : decode cX0_copyFrom 66 = .ok (.getfield 36, 3) := by decide +kernel
theorem dX0_copyFrom_69 : decode cX0_copyFrom 69 = .ok (.putfield 36, 3) := by decide +kernel
theorem dX0_copyFrom_72 : decode cX0_copyFrom 72 = .ok (.aload_n 0, 1) := by decide +kernel
theorem dX0_copyFrom_73 : decode cX0_copyFrom 73 = .ok (.aload_n 1, 1) := by decide +kernel
theorem dX0_copyFrom_74 : decode cX0_copyFrom 74 = .ok (.getfield 39, 3) := by decide +kernel
theorem dX0_copyFrom_77 : decode cX0_copyFrom 77 = .ok (.putfield 39, 3) := by decide +kernel
theorem dX0_copyFrom_80 : decode cX0_copyFrom 80 = .ok (.iconst 0, 1) := by decide +kernel
theorem dX0_copyFrom_81 : decode cX0_copyFrom 81 = .ok (.istore_n 2, 1) := by decide +kernel
theorem dX0_copyFrom_82 : decode cX0_copyFrom 82 = .ok (.iload_n 2, 1) := by decide +kernel
theorem dX0_copyFrom_83 : decode cX0_copyFrom 83 = .ok (.bipush 6, 2) := by decide +kernel
theorem dX0_copyFrom_85 : decode cX0_copyFrom 85 = .ok (.if_icmp .ge 21, 3) := by decide +kernel
theorem dX0_copyFrom_88 : decode cX0_copyFrom 88 = .ok (.aload_n 0, 1) := by decide +kernel
theorem dX0_copyFrom_89 : decode cX0_copyFrom 89 = .ok (.getfield 42, 3) := by decide +kernel
theorem dX0_copyFrom_92 : decode cX0_copyFrom 92 = .ok (.iload_n 2, 1) := by decide +kernel
theorem dX0_copyFrom_93 : decode cX0_copyFrom 93 = .ok (.aload_n 1, 1) := by decide +kernel
theorem dX0_copyFrom_94 : decode cX0_copyFrom 94 = .ok (.getfield 42, 3) := by decide +kernel
theorem dX0_copyFrom_97 : decode cX0_copyFrom 97 = .ok (.iload_n 2, 1) := by decide +kernel
theorem dX0_copyFrom_98 : decode cX0_copyFrom 98 = .ok (.laload, 1) := by decide +kernel
theorem dX0_copyFrom_99 : decode cX0_copyFrom 99 = .ok (.lastore, 1) := by decide +kernel
theorem dX0_copyFrom_100 : decode cX0_copyFrom 100 = .ok (.iinc 2 1, 3) := by decide +kernel
theorem dX0_copyFrom_103 : decode cX0_copyFrom 103 = .ok (.goto (-21), 3) := by decide +kernel
theorem dX0_copyFrom_106 : decode cX0_copyFrom 106 = .ok (.iconst 0, 1) := by decide +kernel
theorem dX0_copyFrom_107 : decode cX0_copyFrom 107 = .ok (.istore_n 2, 1) := by decide +kernel
theorem dX0_copyFrom_108 : decode cX0_copyFrom 108 = .ok (.iload_n 2, 1) := by decide +kernel
theorem dX0_copyFrom_109 : decode cX0_copyFrom 109 = .ok (.aload_n 0, 1) := by decide +kernel
theorem dX0_copyFrom_110 : decode cX0_copyFrom 110 = .ok (.getfield 33, 3) := by decide +kernel
theorem dX0_copyFrom_113 : decode cX0_copyFrom 113 = .ok (.if_icmp .ge 24, 3) := by decide +kernel
theorem dX0_copyFrom_137 : decode cX0_copyFrom 137 = .ok (.iconst 0, 1) := by decide +kernel
theorem dX0_copyFrom_138 : decode cX0_copyFrom 138 = .ok (.istore_n 2, 1) := by decide +kernel
theorem dX0_copyFrom_139 : decode cX0_copyFrom 139 = .ok (.iload_n 2, 1) := by decide +kernel
theorem dX0_copyFrom_140 : decode cX0_copyFrom 140 = .ok (.aload_n 0, 1) := by decide +kernel
theorem dX0_copyFrom_141 : decode cX0_copyFrom 141 = .ok (.getfield 36, 3) := by decide +kernel
theorem dX0_copyFrom_144 : decode cX0_copyFrom 144 = .ok (.if_icmp .ge 24, 3) := by decide +kernel
theorem dX0_copyFrom_168 : decode cX0_copyFrom 168 = .ok (.iconst 0, 1) := by decide +kernel
theorem dX0_copyFrom_169 : decode cX0_copyFrom 169 = .ok (.istore_n 2, 1) := by decide +kernel
theorem dX0_copyFrom_170 : decode cX0_copyFrom 170 = .ok (.iload_n 2, 1) := by decide +kernel
theorem dX0_copyFrom_171 : decode cX0_copyFrom 171 = .ok (.aload_n 0, 1) := by decide +kernel
theorem dX0_copyFrom_172 : decode cX0_copyFrom 172 = .ok (.getfield 39, 3) := by decide +kernel
theorem dX0_copyFrom_175 : decode cX0_copyFrom 175 = .ok (.if_icmp .ge 24, 3) := by decide +kernel
theorem dX0_copyFrom_199 : decode cX0_copyFrom 199 = .ok (.return_, 1) := by decide +kernel
theorem dX0_empty_0 : decode cX0_empty 0 = .ok (.aload_n 0, 1) := by decide +kernel
theorem dX0_empty_1 : decode cX0_empty 1 = .ok (.iconst 0, 1) := by decide +kernel
theorem dX0_empty_2 : decode cX0_empty 2 = .ok (.putfield 27, 3) := by decide +kernel
theorem dX0_empty_5 : decode cX0_empty 5 = .ok (.aload_n 0, 1) := by decide +kernel
theorem dX0_empty_6 : decode cX0_empty 6 = .ok (.iconst 0, 1) := by decide +kernel
theorem dX0_empty_7 : decode cX0_empty 7 = .ok (.putfield 30, 3) := by decide +kernel
theorem dX0_empty_10 : decode cX0_empty 10 = .ok (.aload_n 0, 1) := by decide +kernel
theorem dX0_empty_11 : decode cX0_empty 11 = .ok (.iconst 0, 1) := by decide +kernel
theorem dX0_empty_12 : decode cX0_empty 12 = .ok (.putfield 33, 3) := by decide +kernel
theorem dX0_empty_15 : decode cX0_empty 15 = .ok (.aload_n 0, 1) := by decide +kernel
theorem dX0_empty_16 : decode cX0_empty 16 = .ok (.iconst 0, 1) := by decide +kernel
theorem dX0_empty_17 : decode cX0_empty 17 = .ok (.putfield 36, 3) := by decide +kernel
theorem dX0_empty_20 : decode cX0_empty 20 = .ok (.aload_n 0, 1) := by decide +kernel
theorem dX0_empty_21 : decode cX0_empty 21 = .ok (.iconst 0, 1) := by decide +kernel
theorem dX0_empty_22 : decode cX0_empty 22 = .ok (.putfield 39, 3) := by decide +kernel
theorem dX0_empty_25 : decode cX0_empty 25 = .ok (.iconst 0, 1) := by decide +kernel
theorem dX0_empty_26 : decode cX0_empty 26 = .ok (.istore_n 1, 1) := by decide +kernel
theorem dX0_empty_27 : decode cX0_empty 27 = .ok (.iload_n 1, 1) := by decide +kernel
theorem dX0_empty_28 : decode cX0_empty 28 = .ok (.bipush 6, 2) := by decide +kernel
theorem dX0_empty_30 : decode cX0_empty 30 = .ok (.if_icmp .ge 16, 3) := by decide +kernel
theorem dX0_empty_33 : decode cX0_empty 33 = .ok (.aload_n 0, 1) := by decide +kernel
theorem dX0_empty_34 : decode cX0_empty 34 = .ok (.getfield 42, 3) := by decide +kernel
theorem dX0_empty_37 : decode cX0_empty 37 = .ok (.iload_n 1, 1) := by decide +kernel
theorem dX0_empty_38 : decode cX0_empty 38 = .ok (.lconst 0, 1) := by decide +kernel
theorem dX0_empty_39 : decode cX0_empty 39 = .ok (.lastore, 1) := by decide +kernel
theorem dX0_empty_40 : decode cX0_empty 40 = .ok (.iinc 1 1, 3) := by decide +kernel
theorem dX0_empty_43 : decode cX0_empty 43 = .ok (.goto (-16), 3) := by decide +kernel
theorem dX0_empty_46 : decode cX0_empty 46 = .ok (.return_, 1) := by decide +kernel
theorem dX0_hasInvestor_0 : decode cX0_hasInvestor 0 = .ok (.iload_n 1, 1) := by decide +kernel
theorem dX0_hasInvestor_1 : decode cX0_hasInvestor 1 = .ok (.ifCond .lt 15, 3) := by decide +kernel
theorem dX0_hasInvestor_4 : decode cX0_hasInvestor 4 = .ok (.iload_n 1, 1) := by decide +kernel
theorem dX0_hasInvestor_5 : decode cX0_hasInvestor 5 = .ok (.aload_n 0, 1) := by decide +kernel
theorem dX0_hasInvestor_6 : decode cX0_hasInvestor 6 = .ok (.getfield 9, 3) := by decide +kernel
theorem dX0_hasInvestor_9 : decode cX0_hasInvestor 9 = .ok (.if_icmp .ge 7, 3) := by decide +kernel
theorem dX0_hasInvestor_12 : decode cX0_hasInvestor 12 = .ok (.iconst 1, 1) := by decide +kernel
theorem dX0_hasInvestor_13 : decode cX0_hasInvestor 13 = .ok (.goto 4, 3) := by decide +kernel
theorem dX0_hasInvestor_16 : decode cX0_hasInvestor 16 = .ok (.iconst 0, 1) := by decide +kernel
theorem dX0_hasInvestor_17 : decode cX0_hasInvestor 17 = .ok (.ireturn, 1) := by decide +kernel
theorem dX0_unitsHeldBy_0 : decode cX0_unitsHeldBy 0 = .ok (.lconst 0, 1) := by decide +kernel
theorem dX0_unitsHeldBy_1 : decode cX0_unitsHeldBy 1 = .ok (.lstore_n 2, 1) := by decide +kernel
theorem dX0_unitsHeldBy_2 : decode cX0_unitsHeldBy 2 = .ok (.iconst 0, 1) := by decide +kernel
theorem dX0_unitsHeldBy_3 : decode cX0_unitsHeldBy 3 = .ok (.istore 4, 2) := by decide +kernel
theorem dX0_unitsHeldBy_5 : decode cX0_unitsHeldBy 5 = .ok (.iload 4, 2) := by decide +kernel
theorem dX0_unitsHeldBy_7 : decode cX0_unitsHeldBy 7 = .ok (.aload_n 0, 1) := by decide +kernel
theorem dX0_unitsHeldBy_8 : decode cX0_unitsHeldBy 8 = .ok (.getfield 36, 3) := by decide +kernel
theorem dX0_unitsHeldBy_11 : decode cX0_unitsHeldBy 11 = .ok (.if_icmp .ge 36, 3) := by decide +kernel
theorem dX0_unitsHeldBy_47 : decode cX0_unitsHeldBy 47 = .ok (.lload_n 2, 1) := by decide +kernel
theorem dX0_unitsHeldBy_48 : decode cX0_unitsHeldBy 48 = .ok (.lreturn, 1) := by decide +kernel
theorem dX0_placeOfSeries_0 : decode cX0_placeOfSeries 0 = .ok (.iconst 0, 1) := by decide +kernel
theorem dX0_placeOfSeries_1 : decode cX0_placeOfSeries 1 = .ok (.istore_n 2, 1) := by decide +kernel
theorem dX0_placeOfSeries_2 : decode cX0_placeOfSeries 2 = .ok (.iload_n 2, 1) := by decide +kernel
theorem dX0_placeOfSeries_3 : decode cX0_placeOfSeries 3 = .ok (.aload_n 0, 1) := by decide +kernel
theorem dX0_placeOfSeries_4 : decode cX0_placeOfSeries 4 = .ok (.getfield 33, 3) := by decide +kernel
theorem dX0_placeOfSeries_7 : decode cX0_placeOfSeries 7 = .ok (.if_icmp .ge 24, 3) := by decide +kernel
theorem dX0_placeOfSeries_31 : decode cX0_placeOfSeries 31 = .ok (.iconst (-1), 1) := by decide +kernel
theorem dX0_placeOfSeries_32 : decode cX0_placeOfSeries 32 = .ok (.ireturn, 1) := by decide +kernel
theorem dX0_netOfAll_0 : decode cX0_netOfAll 0 = .ok (.lconst 0, 1) := by decide +kernel
theorem dX0_netOfAll_1 : decode cX0_netOfAll 1 = .ok (.lstore_n 1, 1) := by decide +kernel
theorem dX0_netOfAll_2 : decode cX0_netOfAll 2 = .ok (.iconst 0, 1) := by decide +kernel
theorem dX0_netOfAll_3 : decode cX0_netOfAll 3 = .ok (.istore_n 3, 1) := by decide +kernel
theorem dX0_netOfAll_4 : decode cX0_netOfAll 4 = .ok (.iload_n 3, 1) := by decide +kernel
theorem dX0_netOfAll_5 : decode cX0_netOfAll 5 = .ok (.aload_n 0, 1) := by decide +kernel
theorem dX0_netOfAll_6 : decode cX0_netOfAll 6 = .ok (.getfield 33, 3) := by decide +kernel
theorem dX0_netOfAll_9 : decode cX0_netOfAll 9 = .ok (.if_icmp .ge 35, 3) := by decide +kernel
theorem dX0_netOfAll_44 : decode cX0_netOfAll 44 = .ok (.lload_n 1, 1) := by decide +kernel
theorem dX0_netOfAll_45 : decode cX0_netOfAll 45 = .ok (.lreturn, 1) := by decide +kernel
theorem dX0_limitOfGate_0 : decode cX0_limitOfGate 0 = .ok (.aload_n 0, 1) := by decide +kernel
theorem dX0_limitOfGate_1 : decode cX0_limitOfGate 1 = .ok (.invokevirtual 96, 3) := by decide +kernel
theorem dX0_limitOfGate_4 : decode cX0_limitOfGate 4 = .ok (.aload_n 0, 1) := by decide +kernel
theorem dX0_limitOfGate_5 : decode cX0_limitOfGate 5 = .ok (.getfield 24, 3) := by decide +kernel
theorem dX0_limitOfGate_8 : decode cX0_limitOfGate 8 = .ok (.i2l, 1) := by decide +kernel
theorem dX0_limitOfGate_9 : decode cX0_limitOfGate 9 = .ok (.lmul, 1) := by decide +kernel
theorem dX0_limitOfGate_10 : decode cX0_limitOfGate 10 = .ok (.ldc2_w 100, 3) := by decide +kernel
theorem dX0_limitOfGate_13 : decode cX0_limitOfGate 13 = .ok (.ldiv, 1) := by decide +kernel
theorem dX0_limitOfGate_14 : decode cX0_limitOfGate 14 = .ok (.lreturn, 1) := by decide +kernel
theorem dX0_fallOfPay_0 : decode cX0_fallOfPay 0 = .ok (.lconst 0, 1) := by decide +kernel
theorem dX0_fallOfPay_1 : decode cX0_fallOfPay 1 = .ok (.lstore_n 2, 1) := by decide +kernel
theorem dX0_fallOfPay_2 : decode cX0_fallOfPay 2 = .ok (.iconst 0, 1) := by decide +kernel
theorem dX0_fallOfPay_3 : decode cX0_fallOfPay 3 = .ok (.istore 4, 2) := by decide +kernel
theorem dX0_fallOfPay_5 : decode cX0_fallOfPay 5 = .ok (.iload 4, 2) := by decide +kernel
theorem dX0_fallOfPay_7 : decode cX0_fallOfPay 7 = .ok (.aload_n 0, 1) := by decide +kernel
theorem dX0_fallOfPay_8 : decode cX0_fallOfPay 8 = .ok (.getfield 36, 3) := by decide +kernel
theorem dX0_fallOfPay_11 : decode cX0_fallOfPay 11 = .ok (.if_icmp .ge 68, 3) := by decide +kernel
theorem dX0_fallOfPay_79 : decode cX0_fallOfPay 79 = .ok (.lload_n 2, 1) := by decide +kernel
theorem dX0_fallOfPay_80 : decode cX0_fallOfPay 80 = .ok (.lreturn, 1) := by decide +kernel
theorem dX0_dropEmptyLots_0 : decode cX0_dropEmptyLots 0 = .ok (.iconst 0, 1) := by decide +kernel
theorem dX0_dropEmptyLots_1 : decode cX0_dropEmptyLots 1 = .ok (.istore_n 1, 1) := by decide +kernel
theorem dX0_dropEmptyLots_2 : decode cX0_dropEmptyLots 2 = .ok (.iconst 0, 1) := by decide +kernel
theorem dX0_dropEmptyLots_3 : decode cX0_dropEmptyLots 3 = .ok (.istore_n 2, 1) := by decide +kernel
theorem dX0_dropEmptyLots_4 : decode cX0_dropEmptyLots 4 = .ok (.iload_n 2, 1) := by decide +kernel
theorem dX0_dropEmptyLots_5 : decode cX0_dropEmptyLots 5 = .ok (.aload_n 0, 1) := by decide +kernel
theorem dX0_dropEmptyLots_6 : decode cX0_dropEmptyLots 6 = .ok (.getfield 36, 3) := by decide +kernel
theorem dX0_dropEmptyLots_9 : decode cX0_dropEmptyLots 9 = .ok (.if_icmp .ge 47, 3) := by decide +kernel
theorem dX0_dropEmptyLots_56 : decode cX0_dropEmptyLots 56 = .ok (.aload_n 0, 1) := by decide +kernel
theorem dX0_dropEmptyLots_57 : decode cX0_dropEmptyLots 57 = .ok (.iload_n 1, 1) := by decide +kernel
theorem dX0_dropEmptyLots_58 : decode cX0_dropEmptyLots 58 = .ok (.putfield 36, 3) := by decide +kernel
theorem dX0_dropEmptyLots_61 : decode cX0_dropEmptyLots 61 = .ok (.return_, 1) := by decide +kernel
theorem dX0_closeEmptySeries_0 : decode cX0_closeEmptySeries 0 = .ok (.iconst 0, 1) := by decide +kernel
theorem dX0_closeEmptySeries_1 : decode cX0_closeEmptySeries 1 = .ok (.istore_n 1, 1) := by decide +kernel
theorem dX0_closeEmptySeries_2 : decode cX0_closeEmptySeries 2 = .ok (.iconst 0, 1) := by decide +kernel
theorem dX0_closeEmptySeries_3 : decode cX0_closeEmptySeries 3 = .ok (.istore_n 2, 1) := by decide +kernel
theorem dX0_closeEmptySeries_4 : decode cX0_closeEmptySeries 4 = .ok (.iload_n 2, 1) := by decide +kernel
theorem dX0_closeEmptySeries_5 : decode cX0_closeEmptySeries 5 = .ok (.aload_n 0, 1) := by decide +kernel
theorem dX0_closeEmptySeries_6 : decode cX0_closeEmptySeries 6 = .ok (.getfield 33, 3) := by decide +kernel
theorem dX0_closeEmptySeries_9 : decode cX0_closeEmptySeries 9 = .ok (.if_icmp .ge 63, 3) := by decide +kernel
theorem dX0_closeEmptySeries_72 : decode cX0_closeEmptySeries 72 = .ok (.aload_n 0, 1) := by decide +kernel
theorem dX0_closeEmptySeries_73 : decode cX0_closeEmptySeries 73 = .ok (.iload_n 1, 1) := by decide +kernel
theorem dX0_closeEmptySeries_74 : decode cX0_closeEmptySeries 74 = .ok (.putfield 33, 3) := by decide +kernel
theorem dX0_closeEmptySeries_77 : decode cX0_closeEmptySeries 77 = .ok (.return_, 1) := by decide +kernel
theorem dX0_transferFault_0 : decode cX0_transferFault 0 = .ok (.aload_n 0, 1) := by decide +kernel
theorem dX0_transferFault_1 : decode cX0_transferFault 1 = .ok (.iload_n 1, 1) := by decide +kernel
theorem dX0_transferFault_2 : decode cX0_transferFault 2 = .ok (.invokevirtual 135, 3) := by decide +kernel
theorem dX0_transferFault_5 : decode cX0_transferFault 5 = .ok (.ifCond .eq 11, 3) := by decide +kernel
theorem dX0_transferFault_8 : decode cX0_transferFault 8 = .ok (.aload_n 0, 1) := by decide +kernel
theorem dX0_transferFault_9 : decode cX0_transferFault 9 = .ok (.iload_n 2, 1) := by decide +kernel
theorem dX0_transferFault_10 : decode cX0_transferFault 10 = .ok (.invokevirtual 135, 3) := by decide +kernel
theorem dX0_transferFault_13 : decode cX0_transferFault 13 = .ok (.ifCond .ne 5, 3) := by decide +kernel
theorem dX0_transferFault_16 : decode cX0_transferFault 16 = .ok (.iconst 1, 1) := by decide +kernel
theorem dX0_transferFault_17 : decode cX0_transferFault 17 = .ok (.ireturn, 1) := by decide +kernel
theorem dX0_transferFault_18 : decode cX0_transferFault 18 = .ok (.iload_n 1, 1) := by decide +kernel
theorem dX0_transferFault_19 : decode cX0_transferFault 19 = .ok (.iload_n 2, 1) := by decide +kernel
theorem dX0_transferFault_20 : decode cX0_transferFault 20 = .ok (.if_icmp .eq 14, 3) := by decide +kernel
theorem dX0_transferFault_23 : decode cX0_transferFault 23 = .ok (.iload_n 3, 1) := by decide +kernel
theorem dX0_transferFault_24 : decode cX0_transferFault 24 = .ok (.iconst 1, 1) := by decide +kernel
theorem dX0_transferFault_25 : decode cX0_transferFault 25 = .ok (.if_icmp .lt 9, 3) := by decide +kernel
theorem dX0_transferFault_28 : decode cX0_transferFault 28 = .ok (.iload_n 3, 1) := by decide +kernel
theorem dX0_transferFault_29 : decode cX0_transferFault 29 = .ok (.ldc 139, 2) := by decide +kernel
theorem dX0_transferFault_31 : decode cX0_transferFault 31 = .ok (.if_icmp .le 5, 3) := by decide +kernel
theorem dX0_transferFault_34 : decode cX0_transferFault 34 = .ok (.iconst 2, 1) := by decide +kernel
theorem dX0_transferFault_35 : decode cX0_transferFault 35 = .ok (.ireturn, 1) := by decide +kernel
theorem dX0_transferFault_36 : decode cX0_transferFault 36 = .ok (.aload_n 0, 1) := by decide +kernel
theorem dX0_transferFault_37 : decode cX0_transferFault 37 = .ok (.iload_n 1, 1) := by decide +kernel
theorem dX0_transferFault_38 : decode cX0_transferFault 38 = .ok (.invokevirtual 140, 3) := by decide +kernel
theorem dX0_transferFault_41 : decode cX0_transferFault 41 = .ok (.iload_n 3, 1) := by decide +kernel
theorem dX0_transferFault_42 : decode cX0_transferFault 42 = .ok (.i2l, 1) := by decide +kernel
theorem dX0_transferFault_43 : decode cX0_transferFault 43 = .ok (.aload_n 0, 1) := by decide +kernel
theorem dX0_transferFault_44 : decode cX0_transferFault 44 = .ok (.iload_n 1, 1) := by decide +kernel
theorem dX0_transferFault_45 : decode cX0_transferFault 45 = .ok (.invokevirtual 143, 3) := by decide +kernel
theorem dX0_transferFault_48 : decode cX0_transferFault 48 = .ok (.ladd, 1) := by decide +kernel
theorem dX0_transferFault_49 : decode cX0_transferFault 49 = .ok (.lcmp, 1) := by decide +kernel
theorem dX0_transferFault_50 : decode cX0_transferFault 50 = .ok (.ifCond .ge 5, 3) := by decide +kernel
theorem dX0_transferFault_53 : decode cX0_transferFault 53 = .ok (.iconst 3, 1) := by decide +kernel
theorem dX0_transferFault_54 : decode cX0_transferFault 54 = .ok (.ireturn, 1) := by decide +kernel
theorem dX0_transferFault_55 : decode cX0_transferFault 55 = .ok (.aload_n 0, 1) := by decide +kernel
theorem dX0_transferFault_56 : decode cX0_transferFault 56 = .ok (.getfield 36, 3) := by decide +kernel
theorem dX0_transferFault_59 : decode cX0_transferFault 59 = .ok (.bipush 40, 2) := by decide +kernel
theorem dX0_transferFault_61 : decode cX0_transferFault 61 = .ok (.if_icmp .lt 17, 3) := by decide +kernel
theorem dX0_transferFault_78 : decode cX0_transferFault 78 = .ok (.iconst 0, 1) := by decide +kernel
theorem dX0_transferFault_79 : decode cX0_transferFault 79 = .ok (.ireturn, 1) := by decide +kernel
theorem dX0_moveUnits_0 : decode cX0_moveUnits 0 = .ok (.lload_n 3, 1) := by decide +kernel
theorem dX0_moveUnits_1 : decode cX0_moveUnits 1 = .ok (.lstore 5, 2) := by decide +kernel
theorem dX0_moveUnits_3 : decode cX0_moveUnits 3 = .ok (.aload_n 0, 1) := by decide +kernel
theorem dX0_moveUnits_4 : decode cX0_moveUnits 4 = .ok (.getfield 36, 3) := by decide +kernel
theorem dX0_moveUnits_7 : decode cX0_moveUnits 7 = .ok (.istore 7, 2) := by decide +kernel
theorem dX0_moveUnits_9 : decode cX0_moveUnits 9 = .ok (.iconst 0, 1) := by decide +kernel
theorem dX0_moveUnits_10 : decode cX0_moveUnits 10 = .ok (.istore 8, 2) := by decide +kernel
theorem dX0_moveUnits_12 : decode cX0_moveUnits 12 = .ok (.iload 8, 2) := by decide +kernel
theorem dX0_moveUnits_14 : decode cX0_moveUnits 14 = .ok (.iload 7, 2) := by decide +kernel
theorem dX0_moveUnits_16 : decode cX0_moveUnits 16 = .ok (.if_icmp .ge 82, 3) := by decide +kernel
theorem dX0_moveUnits_98 : decode cX0_moveUnits 98 = .ok (.return_, 1) := by decide +kernel
theorem dX0_subscriptionFault_0 : decode cX0_subscriptionFault 0 = .ok (.aload_n 0, 1) := by decide +kernel
theorem dX0_subscriptionFault_1 : decode cX0_subscriptionFault 1 = .ok (.iload_n 1, 1) := by decide +kernel
theorem dX0_subscriptionFault_2 : decode cX0_subscriptionFault 2 = .ok (.invokevirtual 135, 3) := by decide +kernel
theorem dX0_subscriptionFault_5 : decode cX0_subscriptionFault 5 = .ok (.ifCond .ne 5, 3) := by decide +kernel
theorem dX0_subscriptionFault_8 : decode cX0_subscriptionFault 8 = .ok (.iconst 1, 1) := by decide +kernel
theorem dX0_subscriptionFault_9 : decode cX0_subscriptionFault 9 = .ok (.ireturn, 1) := by decide +kernel
theorem dX0_subscriptionFault_10 : decode cX0_subscriptionFault 10 = .ok (.iload_n 2, 1) := by decide +kernel
theorem dX0_subscriptionFault_11 : decode cX0_subscriptionFault 11 = .ok (.iconst 1, 1) := by decide +kernel
theorem dX0_subscriptionFault_12 : decode cX0_subscriptionFault 12 = .ok (.if_icmp .lt 9, 3) := by decide +kernel
theorem dX0_subscriptionFault_15 : decode cX0_subscriptionFault 15 = .ok (.iload_n 2, 1) := by decide +kernel
theorem dX0_subscriptionFault_16 : decode cX0_subscriptionFault 16 = .ok (.ldc 161, 2) := by decide +kernel
theorem dX0_subscriptionFault_18 : decode cX0_subscriptionFault 18 = .ok (.if_icmp .le 5, 3) := by decide +kernel
theorem dX0_subscriptionFault_21 : decode cX0_subscriptionFault 21 = .ok (.iconst 2, 1) := by decide +kernel
theorem dX0_subscriptionFault_22 : decode cX0_subscriptionFault 22 = .ok (.ireturn, 1) := by decide +kernel
theorem dX0_subscriptionFault_23 : decode cX0_subscriptionFault 23 = .ok (.aload_n 0, 1) := by decide +kernel
theorem dX0_subscriptionFault_24 : decode cX0_subscriptionFault 24 = .ok (.getfield 39, 3) := by decide +kernel
theorem dX0_subscriptionFault_27 : decode cX0_subscriptionFault 27 = .ok (.bipush 12, 2) := by decide +kernel
theorem dX0_subscriptionFault_29 : decode cX0_subscriptionFault 29 = .ok (.if_icmp .lt 7, 3) := by decide +kernel
theorem dX0_subscriptionFault_36 : decode cX0_subscriptionFault 36 = .ok (.iconst 0, 1) := by decide +kernel
theorem dX0_subscriptionFault_37 : decode cX0_subscriptionFault 37 = .ok (.ireturn, 1) := by decide +kernel
theorem dX0_redemptionFault_0 : decode cX0_redemptionFault 0 = .ok (.aload_n 0, 1) := by decide +kernel
theorem dX0_redemptionFault_1 : decode cX0_redemptionFault 1 = .ok (.iload_n 1, 1) := by decide +kernel
theorem dX0_redemptionFault_2 : decode cX0_redemptionFault 2 = .ok (.invokevirtual 135, 3) := by decide +kernel
theorem dX0_redemptionFault_5 : decode cX0_redemptionFault 5 = .ok (.ifCond .ne 5, 3) := by decide +kernel
theorem dX0_redemptionFault_8 : decode cX0_redemptionFault 8 = .ok (.iconst 1, 1) := by decide +kernel
theorem dX0_redemptionFault_9 : decode cX0_redemptionFault 9 = .ok (.ireturn, 1) := by decide +kernel
theorem dX0_redemptionFault_10 : decode cX0_redemptionFault 10 = .ok (.iload_n 2, 1) := by decide +kernel
theorem dX0_redemptionFault_11 : decode cX0_redemptionFault 11 = .ok (.iconst 1, 1) := by decide +kernel
theorem dX0_redemptionFault_12 : decode cX0_redemptionFault 12 = .ok (.if_icmp .lt 9, 3) := by decide +kernel
theorem dX0_redemptionFault_15 : decode cX0_redemptionFault 15 = .ok (.iload_n 2, 1) := by decide +kernel
theorem dX0_redemptionFault_16 : decode cX0_redemptionFault 16 = .ok (.ldc 139, 2) := by decide +kernel
theorem dX0_redemptionFault_18 : decode cX0_redemptionFault 18 = .ok (.if_icmp .le 5, 3) := by decide +kernel
theorem dX0_redemptionFault_21 : decode cX0_redemptionFault 21 = .ok (.iconst 2, 1) := by decide +kernel
theorem dX0_redemptionFault_22 : decode cX0_redemptionFault 22 = .ok (.ireturn, 1) := by decide +kernel
theorem dX0_redemptionFault_23 : decode cX0_redemptionFault 23 = .ok (.aload_n 0, 1) := by decide +kernel
theorem dX0_redemptionFault_24 : decode cX0_redemptionFault 24 = .ok (.getfield 39, 3) := by decide +kernel
theorem dX0_redemptionFault_27 : decode cX0_redemptionFault 27 = .ok (.bipush 12, 2) := by decide +kernel
theorem dX0_redemptionFault_29 : decode cX0_redemptionFault 29 = .ok (.if_icmp .lt 5, 3) := by decide +kernel
theorem dX0_redemptionFault_34 : decode cX0_redemptionFault 34 = .ok (.aload_n 0, 1) := by decide +kernel
theorem dX0_redemptionFault_35 : decode cX0_redemptionFault 35 = .ok (.iload_n 1, 1) := by decide +kernel
theorem dX0_redemptionFault_36 : decode cX0_redemptionFault 36 = .ok (.invokevirtual 143, 3) := by decide +kernel
theorem dX0_redemptionFault_39 : decode cX0_redemptionFault 39 = .ok (.iload_n 2, 1) := by decide +kernel
theorem dX0_redemptionFault_40 : decode cX0_redemptionFault 40 = .ok (.i2l, 1) := by decide +kernel
theorem dX0_redemptionFault_41 : decode cX0_redemptionFault 41 = .ok (.ladd, 1) := by decide +kernel
theorem dX0_redemptionFault_42 : decode cX0_redemptionFault 42 = .ok (.aload_n 0, 1) := by decide +kernel
theorem dX0_redemptionFault_43 : decode cX0_redemptionFault 43 = .ok (.iload_n 1, 1) := by decide +kernel
theorem dX0_redemptionFault_44 : decode cX0_redemptionFault 44 = .ok (.invokevirtual 140, 3) := by decide +kernel
theorem dX0_redemptionFault_47 : decode cX0_redemptionFault 47 = .ok (.lcmp, 1) := by decide +kernel
theorem dX0_redemptionFault_48 : decode cX0_redemptionFault 48 = .ok (.ifCond .le 7, 3) := by decide +kernel
theorem dX0_redemptionFault_51 : decode cX0_redemptionFault 51 = .ok (.iconst 3, 1) := by decide +kernel
theorem dX0_redemptionFault_52 : decode cX0_redemptionFault 52 = .ok (.goto 4, 3) := by decide +kernel
theorem dX0_redemptionFault_55 : decode cX0_redemptionFault 55 = .ok (.iconst 0, 1) := by decide +kernel
theorem dX0_redemptionFault_56 : decode cX0_redemptionFault 56 = .ok (.ireturn, 1) := by decide +kernel
theorem dX0_unitsWaitingOf_0 : decode cX0_unitsWaitingOf 0 = .ok (.lconst 0, 1) := by decide +kernel
theorem dX0_unitsWaitingOf_1 : decode cX0_unitsWaitingOf 1 = .ok (.lstore_n 2, 1) := by decide +kernel
theorem dX0_unitsWaitingOf_2 : decode cX0_unitsWaitingOf 2 = .ok (.iconst 0, 1) := by decide +kernel
theorem dX0_unitsWaitingOf_3 : decode cX0_unitsWaitingOf 3 = .ok (.istore 4, 2) := by decide +kernel
theorem dX0_unitsWaitingOf_5 : decode cX0_unitsWaitingOf 5 = .ok (.iload 4, 2) := by decide +kernel
theorem dX0_unitsWaitingOf_7 : decode cX0_unitsWaitingOf 7 = .ok (.aload_n 0, 1) := by decide +kernel
theorem dX0_unitsWaitingOf_8 : decode cX0_unitsWaitingOf 8 = .ok (.getfield 39, 3) := by decide +kernel
theorem dX0_unitsWaitingOf_11 : decode cX0_unitsWaitingOf 11 = .ok (.if_icmp .ge 49, 3) := by decide +kernel
theorem dX0_unitsWaitingOf_60 : decode cX0_unitsWaitingOf 60 = .ok (.lload_n 2, 1) := by decide +kernel
theorem dX0_unitsWaitingOf_61 : decode cX0_unitsWaitingOf 61 = .ok (.lreturn, 1) := by decide +kernel
theorem dX0_addRequest_0 : decode cX0_addRequest 0 = .ok (.aload_n 0, 1) := by decide +kernel
theorem dX0_addRequest_1 : decode cX0_addRequest 1 = .ok (.getfield 39, 3) := by decide +kernel
theorem dX0_addRequest_4 : decode cX0_addRequest 4 = .ok (.bipush 11, 2) := by decide +kernel
theorem dX0_addRequest_6 : decode cX0_addRequest 6 = .ok (.invokestatic 120, 3) := by decide +kernel
theorem dX0_addRequest_9 : decode cX0_addRequest 9 = .ok (.istore 5, 2) := by decide +kernel
theorem dX0_addRequest_11 : decode cX0_addRequest 11 = .ok (.aload_n 0, 1) := by decide +kernel
theorem dX0_addRequest_12 : decode cX0_addRequest 12 = .ok (.getfield 60, 3) := by decide +kernel
theorem dX0_addRequest_15 : decode cX0_addRequest 15 = .ok (.iload 5, 2) := by decide +kernel
theorem dX0_addRequest_17 : decode cX0_addRequest 17 = .ok (.aaload, 1) := by decide +kernel
theorem dX0_addRequest_18 : decode cX0_addRequest 18 = .ok (.astore 6, 2) := by decide +kernel
theorem dX0_addRequest_20 : decode cX0_addRequest 20 = .ok (.aload 6, 2) := by decide +kernel
theorem dX0_addRequest_22 : decode cX0_addRequest 22 = .ok (.iload_n 1, 1) := by decide +kernel
theorem dX0_addRequest_23 : decode cX0_addRequest 23 = .ok (.putfield 166, 3) := by decide +kernel
theorem dX0_addRequest_26 : decode cX0_addRequest 26 = .ok (.aload 6, 2) := by decide +kernel
theorem dX0_addRequest_28 : decode cX0_addRequest 28 = .ok (.iload_n 2, 1) := by decide +kernel
theorem dX0_addRequest_29 : decode cX0_addRequest 29 = .ok (.putfield 162, 3) := by decide +kernel
theorem dX0_addRequest_32 : decode cX0_addRequest 32 = .ok (.aload 6, 2) := by decide +kernel
theorem dX0_addRequest_34 : decode cX0_addRequest 34 = .ok (.lload_n 3, 1) := by decide +kernel
theorem dX0_addRequest_35 : decode cX0_addRequest 35 = .ok (.putfield 167, 3) := by decide +kernel
theorem dX0_addRequest_38 : decode cX0_addRequest 38 = .ok (.aload 6, 2) := by decide +kernel
theorem dX0_addRequest_40 : decode cX0_addRequest 40 = .ok (.lconst 0, 1) := by decide +kernel
theorem dX0_addRequest_41 : decode cX0_addRequest 41 = .ok (.putfield 170, 3) := by decide +kernel
theorem dX0_addRequest_44 : decode cX0_addRequest 44 = .ok (.aload 6, 2) := by decide +kernel
theorem dX0_addRequest_46 : decode cX0_addRequest 46 = .ok (.aload_n 0, 1) := by decide +kernel
theorem dX0_addRequest_47 : decode cX0_addRequest 47 = .ok (.getfield 27, 3) := by decide +kernel
theorem dX0_addRequest_50 : decode cX0_addRequest 50 = .ok (.putfield 173, 3) := by decide +kernel
theorem dX0_addRequest_53 : decode cX0_addRequest 53 = .ok (.aload_n 0, 1) := by decide +kernel
theorem dX0_addRequest_54 : decode cX0_addRequest 54 = .ok (.iload 5, 2) := by decide +kernel
theorem dX0_addRequest_56 : decode cX0_addRequest 56 = .ok (.iconst 1, 1) := by decide +kernel
theorem dX0_addRequest_57 : decode cX0_addRequest 57 = .ok (.iadd, 1) := by decide +kernel
theorem dX0_addRequest_58 : decode cX0_addRequest 58 = .ok (.putfield 39, 3) := by decide +kernel
theorem dX0_addRequest_61 : decode cX0_addRequest 61 = .ok (.iload 5, 2) := by decide +kernel
theorem dX0_addRequest_63 : decode cX0_addRequest 63 = .ok (.ireturn, 1) := by decide +kernel
theorem dX0_dropDoneRequests_0 : decode cX0_dropDoneRequests 0 = .ok (.iconst 0, 1) := by decide +kernel
theorem dX0_dropDoneRequests_1 : decode cX0_dropDoneRequests 1 = .ok (.istore_n 1, 1) := by decide +kernel
theorem dX0_dropDoneRequests_2 : decode cX0_dropDoneRequests 2 = .ok (.iconst 0, 1) := by decide +kernel
theorem dX0_dropDoneRequests_3 : decode cX0_dropDoneRequests 3 = .ok (.istore_n 2, 1) := by decide +kernel
theorem dX0_dropDoneRequests_4 : decode cX0_dropDoneRequests 4 = .ok (.iload_n 2, 1) := by decide +kernel
theorem dX0_dropDoneRequests_5 : decode cX0_dropDoneRequests 5 = .ok (.aload_n 0, 1) := by decide +kernel
theorem dX0_dropDoneRequests_6 : decode cX0_dropDoneRequests 6 = .ok (.getfield 39, 3) := by decide +kernel
theorem dX0_dropDoneRequests_9 : decode cX0_dropDoneRequests 9 = .ok (.if_icmp .ge 47, 3) := by decide +kernel
theorem dX0_dropDoneRequests_56 : decode cX0_dropDoneRequests 56 = .ok (.aload_n 0, 1) := by decide +kernel
theorem dX0_dropDoneRequests_57 : decode cX0_dropDoneRequests 57 = .ok (.getfield 39, 3) := by decide +kernel
theorem dX0_dropDoneRequests_60 : decode cX0_dropDoneRequests 60 = .ok (.iload_n 1, 1) := by decide +kernel
theorem dX0_dropDoneRequests_61 : decode cX0_dropDoneRequests 61 = .ok (.isub, 1) := by decide +kernel
theorem dX0_dropDoneRequests_62 : decode cX0_dropDoneRequests 62 = .ok (.istore_n 2, 1) := by decide +kernel
theorem dX0_dropDoneRequests_63 : decode cX0_dropDoneRequests 63 = .ok (.aload_n 0, 1) := by decide +kernel
theorem dX0_dropDoneRequests_64 : decode cX0_dropDoneRequests 64 = .ok (.iload_n 1, 1) := by decide +kernel
theorem dX0_dropDoneRequests_65 : decode cX0_dropDoneRequests 65 = .ok (.putfield 39, 3) := by decide +kernel
theorem dX0_dropDoneRequests_68 : decode cX0_dropDoneRequests 68 = .ok (.iload_n 2, 1) := by decide +kernel
theorem dX0_dropDoneRequests_69 : decode cX0_dropDoneRequests 69 = .ok (.ireturn, 1) := by decide +kernel
theorem dX1_init_0 : decode cX1_init 0 = .ok (.aload_n 0, 1) := by decide +kernel
theorem dX1_init_1 : decode cX1_init 1 = .ok (.invokespecial 3, 3) := by decide +kernel
theorem dX1_init_4 : decode cX1_init 4 = .ok (.aload_n 0, 1) := by decide +kernel
theorem dX1_init_5 : decode cX1_init 5 = .ok (.bipush 6, 2) := by decide +kernel
theorem dX1_init_7 : decode cX1_init 7 = .ok (.anewarray 9, 3) := by decide +kernel
theorem dX1_init_10 : decode cX1_init 10 = .ok (.putfield 11, 3) := by decide +kernel
theorem dX1_init_13 : decode cX1_init 13 = .ok (.aload_n 0, 1) := by decide +kernel
theorem dX1_init_14 : decode cX1_init 14 = .ok (.lconst 0, 1) := by decide +kernel
theorem dX1_init_15 : decode cX1_init 15 = .ok (.putfield 17, 3) := by decide +kernel
theorem dX1_init_18 : decode cX1_init 18 = .ok (.aload_n 0, 1) := by decide +kernel
theorem dX1_init_19 : decode cX1_init 19 = .ok (.lconst 0, 1) := by decide +kernel
theorem dX1_init_20 : decode cX1_init 20 = .ok (.putfield 21, 3) := by decide +kernel
theorem dX1_init_23 : decode cX1_init 23 = .ok (.aload_n 0, 1) := by decide +kernel
theorem dX1_init_24 : decode cX1_init 24 = .ok (.lconst 0, 1) := by decide +kernel
theorem dX1_init_25 : decode cX1_init 25 = .ok (.putfield 24, 3) := by decide +kernel
theorem dX1_init_28 : decode cX1_init 28 = .ok (.aload_n 0, 1) := by decide +kernel
theorem dX1_init_29 : decode cX1_init 29 = .ok (.lconst 0, 1) := by decide +kernel
theorem dX1_init_30 : decode cX1_init 30 = .ok (.putfield 27, 3) := by decide +kernel
theorem dX1_init_33 : decode cX1_init 33 = .ok (.aload_n 0, 1) := by decide +kernel
theorem dX1_init_34 : decode cX1_init 34 = .ok (.lconst 0, 1) := by decide +kernel
theorem dX1_init_35 : decode cX1_init 35 = .ok (.putfield 30, 3) := by decide +kernel
theorem dX1_init_38 : decode cX1_init 38 = .ok (.iconst 0, 1) := by decide +kernel
theorem dX1_init_39 : decode cX1_init 39 = .ok (.istore_n 1, 1) := by decide +kernel
theorem dX1_init_40 : decode cX1_init 40 = .ok (.iload_n 1, 1) := by decide +kernel
theorem dX1_init_41 : decode cX1_init 41 = .ok (.bipush 6, 2) := by decide +kernel
theorem dX1_init_43 : decode cX1_init 43 = .ok (.if_icmp .ge 22, 3) := by decide +kernel
theorem dX1_init_46 : decode cX1_init 46 = .ok (.aload_n 0, 1) := by decide +kernel
theorem dX1_init_47 : decode cX1_init 47 = .ok (.getfield 11, 3) := by decide +kernel
theorem dX1_init_50 : decode cX1_init 50 = .ok (.iload_n 1, 1) := by decide +kernel
theorem dX1_init_51 : decode cX1_init 51 = .ok (.new 9, 3) := by decide +kernel
theorem dX1_init_54 : decode cX1_init 54 = .ok (.dup, 1) := by decide +kernel
theorem dX1_init_55 : decode cX1_init 55 = .ok (.invokespecial 33, 3) := by decide +kernel
theorem dX1_init_58 : decode cX1_init 58 = .ok (.aastore, 1) := by decide +kernel
theorem dX1_init_59 : decode cX1_init 59 = .ok (.iinc 1 1, 3) := by decide +kernel
theorem dX1_init_62 : decode cX1_init 62 = .ok (.goto (-22), 3) := by decide +kernel
theorem dX1_init_65 : decode cX1_init 65 = .ok (.return_, 1) := by decide +kernel
theorem dX1_holdDealing_0 : decode cX1_holdDealing 0 = .ok (.aload_n 0, 1) := by decide +kernel
theorem dX1_holdDealing_1 : decode cX1_holdDealing 1 = .ok (.aload_n 1, 1) := by decide +kernel
theorem dX1_holdDealing_2 : decode cX1_holdDealing 2 = .ok (.aload_n 0, 1) := by decide +kernel
theorem dX1_holdDealing_3 : decode cX1_holdDealing 3 = .ok (.aload_n 1, 1) := by decide +kernel
theorem dX1_holdDealing_4 : decode cX1_holdDealing 4 = .ok (.invokevirtual 34, 3) := by decide +kernel
theorem dX1_holdDealing_7 : decode cX1_holdDealing 7 = .ok (.invokevirtual 38, 3) := by decide +kernel
theorem dX1_holdDealing_10 : decode cX1_holdDealing 10 = .ok (.aload_n 0, 1) := by decide +kernel
theorem dX1_holdDealing_11 : decode cX1_holdDealing 11 = .ok (.aload_n 1, 1) := by decide +kernel
theorem dX1_holdDealing_12 : decode cX1_holdDealing 12 = .ok (.invokevirtual 42, 3) := by decide +kernel
theorem dX1_holdDealing_15 : decode cX1_holdDealing 15 = .ok (.aload_n 1, 1) := by decide +kernel
theorem dX1_holdDealing_16 : decode cX1_holdDealing 16 = .ok (.invokevirtual 46, 3) := by decide +kernel
theorem dX1_holdDealing_19 : decode cX1_holdDealing 19 = .ok (.ireturn, 1) := by decide +kernel
theorem dX1_redeemWaiting_0 : decode cX1_redeemWaiting 0 = .ok (.aload_n 1, 1) := by decide +kernel
theorem dX1_redeemWaiting_1 : decode cX1_redeemWaiting 1 = .ok (.invokevirtual 52, 3) := by decide +kernel
theorem dX1_redeemWaiting_4 : decode cX1_redeemWaiting 4 = .ok (.lstore 4, 2) := by decide +kernel
theorem dX1_redeemWaiting_6 : decode cX1_redeemWaiting 6 = .ok (.iconst 0, 1) := by decide +kernel
theorem dX1_redeemWaiting_7 : decode cX1_redeemWaiting 7 = .ok (.istore 6, 2) := by decide +kernel
theorem dX1_redeemWaiting_9 : decode cX1_redeemWaiting 9 = .ok (.iload 6, 2) := by decide +kernel
theorem dX1_redeemWaiting_11 : decode cX1_redeemWaiting 11 = .ok (.aload_n 1, 1) := by decide +kernel
theorem dX1_redeemWaiting_12 : decode cX1_redeemWaiting 12 = .ok (.getfield 56, 3) := by decide +kernel
theorem dX1_redeemWaiting_15 : decode cX1_redeemWaiting 15 = .ok (.if_icmp .ge 84, 3) := by decide +kernel
theorem dX1_redeemWaiting_99 : decode cX1_redeemWaiting 99 = .ok (.iconst 0, 1) := by decide +kernel
theorem dX1_redeemWaiting_100 : decode cX1_redeemWaiting 100 = .ok (.istore 6, 2) := by decide +kernel
theorem dX1_redeemWaiting_102 : decode cX1_redeemWaiting 102 = .ok (.iload 6, 2) := by decide +kernel
theorem dX1_redeemWaiting_104 : decode cX1_redeemWaiting 104 = .ok (.aload_n 1, 1) := by decide +kernel
theorem dX1_redeemWaiting_105 : decode cX1_redeemWaiting 105 = .ok (.getfield 56, 3) := by decide +kernel
theorem dX1_redeemWaiting_108 : decode cX1_redeemWaiting 108 = .ok (.if_icmp .ge 46, 3) := by decide +kernel
theorem dX1_redeemWaiting_154 : decode cX1_redeemWaiting 154 = .ok (.return_, 1) := by decide +kernel
theorem dX1_baseOfRedemptions_0 : decode cX1_baseOfRedemptions 0 = .ok (.lconst 0, 1) := by decide +kernel
theorem dX1_baseOfRedemptions_1 : decode cX1_baseOfRedemptions 1 = .ok (.lstore_n 2, 1) := by decide +kernel
theorem dX1_baseOfRedemptions_2 : decode cX1_baseOfRedemptions 2 = .ok (.iconst 0, 1) := by decide +kernel
theorem dX1_baseOfRedemptions_3 : decode cX1_baseOfRedemptions 3 = .ok (.istore 4, 2) := by decide +kernel
theorem dX1_baseOfRedemptions_5 : decode cX1_baseOfRedemptions 5 = .ok (.iload 4, 2) := by decide +kernel
theorem dX1_baseOfRedemptions_7 : decode cX1_baseOfRedemptions 7 = .ok (.aload_n 1, 1) := by decide +kernel
theorem dX1_baseOfRedemptions_8 : decode cX1_baseOfRedemptions 8 = .ok (.getfield 56, 3) := by decide +kernel
theorem dX1_baseOfRedemptions_11 : decode cX1_baseOfRedemptions 11 = .ok (.if_icmp .ge 51, 3) := by decide +kernel
theorem dX1_baseOfRedemptions_62 : decode cX1_baseOfRedemptions 62 = .ok (.lload_n 2, 1) := by decide +kernel
theorem dX1_baseOfRedemptions_63 : decode cX1_baseOfRedemptions 63 = .ok (.lreturn, 1) := by decide +kernel
theorem dX1_payAfterRate_0 : decode cX1_payAfterRate 0 = .ok (.aload_n 0, 1) := by decide +kernel
theorem dX1_payAfterRate_1 : decode cX1_payAfterRate 1 = .ok (.aload_n 1, 1) := by decide +kernel
theorem dX1_payAfterRate_2 : decode cX1_payAfterRate 2 = .ok (.iload_n 3, 1) := by decide +kernel
theorem dX1_payAfterRate_3 : decode cX1_payAfterRate 3 = .ok (.invokevirtual 87, 3) := by decide +kernel
theorem dX1_payAfterRate_6 : decode cX1_payAfterRate 6 = .ok (.aload_n 0, 1) := by decide +kernel
theorem dX1_payAfterRate_7 : decode cX1_payAfterRate 7 = .ok (.aload_n 1, 1) := by decide +kernel
theorem dX1_payAfterRate_8 : decode cX1_payAfterRate 8 = .ok (.iload_n 2, 1) := by decide +kernel
theorem dX1_payAfterRate_9 : decode cX1_payAfterRate 9 = .ok (.ldc2_w 95, 3) := by decide +kernel
theorem dX1_payAfterRate_12 : decode cX1_payAfterRate 12 = .ok (.iconst 1, 1) := by decide +kernel
theorem dX1_payAfterRate_13 : decode cX1_payAfterRate 13 = .ok (.invokevirtual 91, 3) := by decide +kernel
theorem dX1_payAfterRate_16 : decode cX1_payAfterRate 16 = .ok (.lreturn, 1) := by decide +kernel
theorem dX1_resetTrial_0 : decode cX1_resetTrial 0 = .ok (.iconst 0, 1) := by decide +kernel
theorem dX1_resetTrial_1 : decode cX1_resetTrial 1 = .ok (.istore_n 3, 1) := by decide +kernel
theorem dX1_resetTrial_2 : decode cX1_resetTrial 2 = .ok (.iload_n 3, 1) := by decide +kernel
theorem dX1_resetTrial_3 : decode cX1_resetTrial 3 = .ok (.aload_n 1, 1) := by decide +kernel
theorem dX1_resetTrial_4 : decode cX1_resetTrial 4 = .ok (.getfield 97, 3) := by decide +kernel
theorem dX1_resetTrial_7 : decode cX1_resetTrial 7 = .ok (.if_icmp .ge 43, 3) := by decide +kernel
theorem dX1_resetTrial_50 : decode cX1_resetTrial 50 = .ok (.return_, 1) := by decide +kernel
theorem dX1_tryRedemption_0 : decode cX1_tryRedemption 0 = .ok (.lconst 0, 1) := by decide +kernel
theorem dX1_tryRedemption_1 : decode cX1_tryRedemption 1 = .ok (.lstore 6, 2) := by decide +kernel
theorem dX1_tryRedemption_3 : decode cX1_tryRedemption 3 = .ok (.lload_n 3, 1) := by decide +kernel
theorem dX1_tryRedemption_4 : decode cX1_tryRedemption 4 = .ok (.lstore 8, 2) := by decide +kernel
theorem dX1_tryRedemption_6 : decode cX1_tryRedemption 6 = .ok (.iconst 0, 1) := by decide +kernel
theorem dX1_tryRedemption_7 : decode cX1_tryRedemption 7 = .ok (.istore 10, 2) := by decide +kernel
theorem dX1_tryRedemption_9 : decode cX1_tryRedemption 9 = .ok (.iload 10, 2) := by decide +kernel
theorem dX1_tryRedemption_11 : decode cX1_tryRedemption 11 = .ok (.aload_n 1, 1) := by decide +kernel
theorem dX1_tryRedemption_12 : decode cX1_tryRedemption 12 = .ok (.getfield 113, 3) := by decide +kernel
theorem dX1_tryRedemption_15 : decode cX1_tryRedemption 15 = .ok (.if_icmp .ge 158, 3) := by decide +kernel
theorem dX1_tryRedemption_173 : decode cX1_tryRedemption 173 = .ok (.lload 6, 2) := by decide +kernel
theorem dX1_tryRedemption_175 : decode cX1_tryRedemption 175 = .ok (.lreturn, 1) := by decide +kernel
theorem dX1_subscribeWaiting_0 : decode cX1_subscribeWaiting 0 = .ok (.aload_n 1, 1) := by decide +kernel
theorem dX1_subscribeWaiting_1 : decode cX1_subscribeWaiting 1 = .ok (.getfield 165, 3) := by decide +kernel
theorem dX1_subscribeWaiting_4 : decode cX1_subscribeWaiting 4 = .ok (.iconst 1, 1) := by decide +kernel
theorem dX1_subscribeWaiting_5 : decode cX1_subscribeWaiting 5 = .ok (.if_icmp .ne 14, 3) := by decide +kernel
theorem dX1_subscribeWaiting_19 : decode cX1_subscribeWaiting 19 = .ok (.iconst (-1), 1) := by decide +kernel
theorem dX1_subscribeWaiting_20 : decode cX1_subscribeWaiting 20 = .ok (.istore_n 2, 1) := by decide +kernel
theorem dX1_subscribeWaiting_21 : decode cX1_subscribeWaiting 21 = .ok (.iconst 0, 1) := by decide +kernel
theorem dX1_subscribeWaiting_22 : decode cX1_subscribeWaiting 22 = .ok (.istore_n 3, 1) := by decide +kernel
theorem dX1_subscribeWaiting_23 : decode cX1_subscribeWaiting 23 = .ok (.iload_n 3, 1) := by decide +kernel
theorem dX1_subscribeWaiting_24 : decode cX1_subscribeWaiting 24 = .ok (.aload_n 1, 1) := by decide +kernel
theorem dX1_subscribeWaiting_25 : decode cX1_subscribeWaiting 25 = .ok (.getfield 56, 3) := by decide +kernel
theorem dX1_subscribeWaiting_28 : decode cX1_subscribeWaiting 28 = .ok (.if_icmp .ge 58, 3) := by decide +kernel
theorem dX1_subscribeWaiting_86 : decode cX1_subscribeWaiting 86 = .ok (.return_, 1) := by decide +kernel
theorem dX2_earningFault_0 : decode cX2_earningFault 0 = .ok (.iload_n 1, 1) := by decide +kernel
theorem dX2_earningFault_1 : decode cX2_earningFault 1 = .ok (.sipush (-9000), 3) := by decide +kernel
theorem dX2_earningFault_4 : decode cX2_earningFault 4 = .ok (.if_icmp .lt 10, 3) := by decide +kernel
theorem dX2_earningFault_7 : decode cX2_earningFault 7 = .ok (.iload_n 1, 1) := by decide +kernel
theorem dX2_earningFault_8 : decode cX2_earningFault 8 = .ok (.sipush 9999, 3) := by decide +kernel
theorem dX2_earningFault_11 : decode cX2_earningFault 11 = .ok (.if_icmp .le 5, 3) := by decide +kernel
theorem dX2_earningFault_14 : decode cX2_earningFault 14 = .ok (.iconst 2, 1) := by decide +kernel
theorem dX2_earningFault_15 : decode cX2_earningFault 15 = .ok (.ireturn, 1) := by decide +kernel
theorem dX2_earningFault_16 : decode cX2_earningFault 16 = .ok (.iconst 0, 1) := by decide +kernel
theorem dX2_earningFault_17 : decode cX2_earningFault 17 = .ok (.istore_n 2, 1) := by decide +kernel
theorem dX2_earningFault_18 : decode cX2_earningFault 18 = .ok (.iload_n 2, 1) := by decide +kernel
theorem dX2_earningFault_19 : decode cX2_earningFault 19 = .ok (.aload_n 0, 1) := by decide +kernel
theorem dX2_earningFault_20 : decode cX2_earningFault 20 = .ok (.getfield 13, 3) := by decide +kernel
theorem dX2_earningFault_23 : decode cX2_earningFault 23 = .ok (.if_icmp .ge 51, 3) := by decide +kernel
theorem dX2_earningFault_74 : decode cX2_earningFault 74 = .ok (.iconst 0, 1) := by decide +kernel
theorem dX2_earningFault_75 : decode cX2_earningFault 75 = .ok (.ireturn, 1) := by decide +kernel
theorem dX2_earnRate_0 : decode cX2_earnRate 0 = .ok (.lconst 0, 1) := by decide +kernel
theorem dX2_earnRate_1 : decode cX2_earnRate 1 = .ok (.lstore_n 2, 1) := by decide +kernel
theorem dX2_earnRate_2 : decode cX2_earnRate 2 = .ok (.iconst 0, 1) := by decide +kernel
theorem dX2_earnRate_3 : decode cX2_earnRate 3 = .ok (.istore 4, 2) := by decide +kernel
theorem dX2_earnRate_5 : decode cX2_earnRate 5 = .ok (.iload 4, 2) := by decide +kernel
theorem dX2_earnRate_7 : decode cX2_earnRate 7 = .ok (.aload_n 0, 1) := by decide +kernel
theorem dX2_earnRate_8 : decode cX2_earnRate 8 = .ok (.getfield 13, 3) := by decide +kernel
theorem dX2_earnRate_11 : decode cX2_earnRate 11 = .ok (.if_icmp .ge 50, 3) := by decide +kernel
theorem dX2_earnRate_61 : decode cX2_earnRate 61 = .ok (.aload_n 0, 1) := by decide +kernel
theorem dX2_earnRate_62 : decode cX2_earnRate 62 = .ok (.getfield 41, 3) := by decide +kernel
theorem dX2_earnRate_65 : decode cX2_earnRate 65 = .ok (.iconst 4, 1) := by decide +kernel
theorem dX2_earnRate_66 : decode cX2_earnRate 66 = .ok (.dup2, 1) := by decide +kernel
theorem dX2_earnRate_67 : decode cX2_earnRate 67 = .ok (.laload, 1) := by decide +kernel
theorem dX2_earnRate_68 : decode cX2_earnRate 68 = .ok (.lload_n 2, 1) := by decide +kernel
theorem dX2_earnRate_69 : decode cX2_earnRate 69 = .ok (.ladd, 1) := by decide +kernel
theorem dX2_earnRate_70 : decode cX2_earnRate 70 = .ok (.lastore, 1) := by decide +kernel
theorem dX2_earnRate_71 : decode cX2_earnRate 71 = .ok (.lload_n 2, 1) := by decide +kernel
theorem dX2_earnRate_72 : decode cX2_earnRate 72 = .ok (.lreturn, 1) := by decide +kernel
theorem dX2_passingFault_0 : decode cX2_passingFault 0 = .ok (.iload_n 0, 1) := by decide +kernel
theorem dX2_passingFault_1 : decode cX2_passingFault 1 = .ok (.iconst 1, 1) := by decide +kernel
theorem dX2_passingFault_2 : decode cX2_passingFault 2 = .ok (.if_icmp .lt 10, 3) := by decide +kernel
theorem dX2_passingFault_5 : decode cX2_passingFault 5 = .ok (.iload_n 0, 1) := by decide +kernel
theorem dX2_passingFault_6 : decode cX2_passingFault 6 = .ok (.sipush 400, 3) := by decide +kernel
theorem dX2_passingFault_9 : decode cX2_passingFault 9 = .ok (.if_icmp .le 7, 3) := by decide +kernel
theorem dX2_passingFault_12 : decode cX2_passingFault 12 = .ok (.iconst 2, 1) := by decide +kernel
theorem dX2_passingFault_13 : decode cX2_passingFault 13 = .ok (.goto 4, 3) := by decide +kernel
theorem dX2_passingFault_16 : decode cX2_passingFault 16 = .ok (.iconst 0, 1) := by decide +kernel
theorem dX2_passingFault_17 : decode cX2_passingFault 17 = .ok (.ireturn, 1) := by decide +kernel
theorem dX2_chargeDays_0 : decode cX2_chargeDays 0 = .ok (.lconst 0, 1) := by decide +kernel
theorem dX2_chargeDays_1 : decode cX2_chargeDays 1 = .ok (.lstore_n 2, 1) := by decide +kernel
theorem dX2_chargeDays_2 : decode cX2_chargeDays 2 = .ok (.iconst 0, 1) := by decide +kernel
theorem dX2_chargeDays_3 : decode cX2_chargeDays 3 = .ok (.istore 4, 2) := by decide +kernel
theorem dX2_chargeDays_5 : decode cX2_chargeDays 5 = .ok (.iload 4, 2) := by decide +kernel
theorem dX2_chargeDays_7 : decode cX2_chargeDays 7 = .ok (.iload_n 1, 1) := by decide +kernel
theorem dX2_chargeDays_8 : decode cX2_chargeDays 8 = .ok (.if_icmp .ge 81, 3) := by decide +kernel
theorem dX2_chargeDays_11 : decode cX2_chargeDays 11 = .ok (.iconst 0, 1) := by decide +kernel
theorem dX2_chargeDays_12 : decode cX2_chargeDays 12 = .ok (.istore 5, 2) := by decide +kernel
theorem dX2_chargeDays_14 : decode cX2_chargeDays 14 = .ok (.iload 5, 2) := by decide +kernel
theorem dX2_chargeDays_16 : decode cX2_chargeDays 16 = .ok (.aload_n 0, 1) := by decide +kernel
theorem dX2_chargeDays_17 : decode cX2_chargeDays 17 = .ok (.getfield 13, 3) := by decide +kernel
theorem dX2_chargeDays_20 : decode cX2_chargeDays 20 = .ok (.if_icmp .ge 53, 3) := by decide +kernel
theorem dX2_chargeDays_73 : decode cX2_chargeDays 73 = .ok (.aload_n 0, 1) := by decide +kernel
theorem dX2_chargeDays_74 : decode cX2_chargeDays 74 = .ok (.dup, 1) := by decide +kernel
theorem dX2_chargeDays_75 : decode cX2_chargeDays 75 = .ok (.getfield 50, 3) := by decide +kernel
theorem dX2_chargeDays_78 : decode cX2_chargeDays 78 = .ok (.iconst 1, 1) := by decide +kernel
theorem dX2_chargeDays_79 : decode cX2_chargeDays 79 = .ok (.iadd, 1) := by decide +kernel
theorem dX2_chargeDays_80 : decode cX2_chargeDays 80 = .ok (.putfield 50, 3) := by decide +kernel
theorem dX2_chargeDays_83 : decode cX2_chargeDays 83 = .ok (.iinc 4 1, 3) := by decide +kernel
theorem dX2_chargeDays_86 : decode cX2_chargeDays 86 = .ok (.goto (-81), 3) := by decide +kernel
theorem dX2_chargeDays_89 : decode cX2_chargeDays 89 = .ok (.aload_n 0, 1) := by decide +kernel
theorem dX2_chargeDays_90 : decode cX2_chargeDays 90 = .ok (.getfield 41, 3) := by decide +kernel
theorem dX2_chargeDays_93 : decode cX2_chargeDays 93 = .ok (.iconst 0, 1) := by decide +kernel
theorem dX2_chargeDays_94 : decode cX2_chargeDays 94 = .ok (.dup2, 1) := by decide +kernel
theorem dX2_chargeDays_95 : decode cX2_chargeDays 95 = .ok (.laload, 1) := by decide +kernel
theorem dX2_chargeDays_96 : decode cX2_chargeDays 96 = .ok (.lload_n 2, 1) := by decide +kernel
theorem dX2_chargeDays_97 : decode cX2_chargeDays 97 = .ok (.ladd, 1) := by decide +kernel
theorem dX2_chargeDays_98 : decode cX2_chargeDays 98 = .ok (.lastore, 1) := by decide +kernel
theorem dX2_chargeDays_99 : decode cX2_chargeDays 99 = .ok (.aload_n 0, 1) := by decide +kernel
theorem dX2_chargeDays_100 : decode cX2_chargeDays 100 = .ok (.getfield 41, 3) := by decide +kernel
theorem dX2_chargeDays_103 : decode cX2_chargeDays 103 = .ok (.iconst 5, 1) := by decide +kernel
theorem dX2_chargeDays_104 : decode cX2_chargeDays 104 = .ok (.dup2, 1) := by decide +kernel
theorem dX2_chargeDays_105 : decode cX2_chargeDays 105 = .ok (.laload, 1) := by decide +kernel
theorem dX2_chargeDays_106 : decode cX2_chargeDays 106 = .ok (.lload_n 2, 1) := by decide +kernel
theorem dX2_chargeDays_107 : decode cX2_chargeDays 107 = .ok (.ladd, 1) := by decide +kernel
theorem dX2_chargeDays_108 : decode cX2_chargeDays 108 = .ok (.lastore, 1) := by decide +kernel
theorem dX2_chargeDays_109 : decode cX2_chargeDays 109 = .ok (.lload_n 2, 1) := by decide +kernel
theorem dX2_chargeDays_110 : decode cX2_chargeDays 110 = .ok (.lreturn, 1) := by decide +kernel
theorem dX2_settleAll_0 : decode cX2_settleAll 0 = .ok (.aload_n 0, 1) := by decide +kernel
theorem dX2_settleAll_1 : decode cX2_settleAll 1 = .ok (.getfield 41, 3) := by decide +kernel
theorem dX2_settleAll_4 : decode cX2_settleAll 4 = .ok (.iconst 0, 1) := by decide +kernel
theorem dX2_settleAll_5 : decode cX2_settleAll 5 = .ok (.laload, 1) := by decide +kernel
theorem dX2_settleAll_6 : decode cX2_settleAll 6 = .ok (.lstore_n 1, 1) := by decide +kernel
theorem dX2_settleAll_7 : decode cX2_settleAll 7 = .ok (.iconst 0, 1) := by decide +kernel
theorem dX2_settleAll_8 : decode cX2_settleAll 8 = .ok (.istore_n 3, 1) := by decide +kernel
theorem dX2_settleAll_9 : decode cX2_settleAll 9 = .ok (.iload_n 3, 1) := by decide +kernel
theorem dX2_settleAll_10 : decode cX2_settleAll 10 = .ok (.aload_n 0, 1) := by decide +kernel
theorem dX2_settleAll_11 : decode cX2_settleAll 11 = .ok (.getfield 13, 3) := by decide +kernel
theorem dX2_settleAll_14 : decode cX2_settleAll 14 = .ok (.if_icmp .ge 19, 3) := by decide +kernel
theorem dX2_settleAll_33 : decode cX2_settleAll 33 = .ok (.aload_n 0, 1) := by decide +kernel
theorem dX2_settleAll_34 : decode cX2_settleAll 34 = .ok (.invokevirtual 59, 3) := by decide +kernel
theorem dX2_settleAll_37 : decode cX2_settleAll 37 = .ok (.aload_n 0, 1) := by decide +kernel
theorem dX2_settleAll_38 : decode cX2_settleAll 38 = .ok (.invokevirtual 62, 3) := by decide +kernel
theorem dX2_settleAll_41 : decode cX2_settleAll 41 = .ok (.aload_n 0, 1) := by decide +kernel
theorem dX2_settleAll_42 : decode cX2_settleAll 42 = .ok (.getfield 41, 3) := by decide +kernel
theorem dX2_settleAll_45 : decode cX2_settleAll 45 = .ok (.iconst 0, 1) := by decide +kernel
theorem dX2_settleAll_46 : decode cX2_settleAll 46 = .ok (.laload, 1) := by decide +kernel
theorem dX2_settleAll_47 : decode cX2_settleAll 47 = .ok (.lload_n 1, 1) := by decide +kernel
theorem dX2_settleAll_48 : decode cX2_settleAll 48 = .ok (.lsub, 1) := by decide +kernel
theorem dX2_settleAll_49 : decode cX2_settleAll 49 = .ok (.lreturn, 1) := by decide +kernel
theorem dX2_mergeAll_0 : decode cX2_mergeAll 0 = .ok (.aload_n 0, 1) := by decide +kernel
theorem dX2_mergeAll_1 : decode cX2_mergeAll 1 = .ok (.getfield 89, 3) := by decide +kernel
theorem dX2_mergeAll_4 : decode cX2_mergeAll 4 = .ok (.iconst 1, 1) := by decide +kernel
theorem dX2_mergeAll_5 : decode cX2_mergeAll 5 = .ok (.if_icmp .eq 10, 3) := by decide +kernel
theorem dX2_mergeAll_8 : decode cX2_mergeAll 8 = .ok (.aload_n 0, 1) := by decide +kernel
theorem dX2_mergeAll_9 : decode cX2_mergeAll 9 = .ok (.getfield 13, 3) := by decide +kernel
theorem dX2_mergeAll_12 : decode cX2_mergeAll 12 = .ok (.ifCond .ne 5, 3) := by decide +kernel
theorem dX2_mergeAll_15 : decode cX2_mergeAll 15 = .ok (.iconst 0, 1) := by decide +kernel
theorem dX2_mergeAll_16 : decode cX2_mergeAll 16 = .ok (.ireturn, 1) := by decide +kernel
theorem dX3_init_0 : decode cX3_init 0 = .ok (.aload_n 0, 1) := by decide +kernel
theorem dX3_init_1 : decode cX3_init 1 = .ok (.invokespecial 3, 3) := by decide +kernel
theorem dX3_init_4 : decode cX3_init 4 = .ok (.aload_n 0, 1) := by decide +kernel
theorem dX3_init_5 : decode cX3_init 5 = .ok (.iconst 0, 1) := by decide +kernel
theorem dX3_init_6 : decode cX3_init 6 = .ok (.putfield 9, 3) := by decide +kernel
theorem dX3_init_9 : decode cX3_init 9 = .ok (.aload_n 0, 1) := by decide +kernel
theorem dX3_init_10 : decode cX3_init 10 = .ok (.aload_n 1, 1) := by decide +kernel
theorem dX3_init_11 : decode cX3_init 11 = .ok (.putfield 15, 3) := by decide +kernel
theorem dX3_init_14 : decode cX3_init 14 = .ok (.aload_n 0, 1) := by decide +kernel
theorem dX3_init_15 : decode cX3_init 15 = .ok (.aload_n 2, 1) := by decide +kernel
theorem dX3_init_16 : decode cX3_init 16 = .ok (.putfield 19, 3) := by decide +kernel
theorem dX3_init_19 : decode cX3_init 19 = .ok (.return_, 1) := by decide +kernel
theorem dX3_readAll_0 : decode cX3_readAll 0 = .ok (.aload_n 0, 1) := by decide +kernel
theorem dX3_readAll_1 : decode cX3_readAll 1 = .ok (.getfield 19, 3) := by decide +kernel
theorem dX3_readAll_4 : decode cX3_readAll 4 = .ok (.invokevirtual 23, 3) := by decide +kernel
theorem dX3_readAll_7 : decode cX3_readAll 7 = .ok (.aload_n 0, 1) := by decide +kernel
theorem dX3_readAll_8 : decode cX3_readAll 8 = .ok (.invokevirtual 28, 3) := by decide +kernel
theorem dX3_readAll_11 : decode cX3_readAll 11 = .ok (.ifCond .eq 21, 3) := by decide +kernel
theorem dX3_readAll_32 : decode cX3_readAll 32 = .ok (.iconst 0, 1) := by decide +kernel
theorem dX3_readAll_33 : decode cX3_readAll 33 = .ok (.ireturn, 1) := by decide +kernel
theorem dX3_readFund_0 : decode cX3_readFund 0 = .ok (.aload_n 0, 1) := by decide +kernel
theorem dX3_readFund_1 : decode cX3_readFund 1 = .ok (.ldc 38, 2) := by decide +kernel
theorem dX3_readFund_3 : decode cX3_readFund 3 = .ok (.invokevirtual 40, 3) := by decide +kernel
theorem dX3_readFund_6 : decode cX3_readFund 6 = .ok (.ifCond .eq 21, 3) := by decide +kernel
theorem dX3_readFund_27 : decode cX3_readFund 27 = .ok (.iconst 0, 1) := by decide +kernel
theorem dX3_readFund_28 : decode cX3_readFund 28 = .ok (.ireturn, 1) := by decide +kernel
theorem dX3_readWord_0 : decode cX3_readWord 0 = .ok (.aload_n 0, 1) := by decide +kernel
theorem dX3_readWord_1 : decode cX3_readWord 1 = .ok (.getfield 15, 3) := by decide +kernel
theorem dX3_readWord_4 : decode cX3_readWord 4 = .ok (.invokevirtual 68, 3) := by decide +kernel
theorem dX3_readWord_7 : decode cX3_readWord 7 = .ok (.aload_n 0, 1) := by decide +kernel
theorem dX3_readWord_8 : decode cX3_readWord 8 = .ok (.aload_n 0, 1) := by decide +kernel
theorem dX3_readWord_9 : decode cX3_readWord 9 = .ok (.getfield 15, 3) := by decide +kernel
theorem dX3_readWord_12 : decode cX3_readWord 12 = .ok (.aload_n 1, 1) := by decide +kernel
theorem dX3_readWord_13 : decode cX3_readWord 13 = .ok (.invokevirtual 73, 3) := by decide +kernel
theorem dX3_readWord_16 : decode cX3_readWord 16 = .ok (.iconst 1, 1) := by decide +kernel
theorem dX3_readWord_17 : decode cX3_readWord 17 = .ok (.invokevirtual 81, 3) := by decide +kernel
theorem dX3_readWord_20 : decode cX3_readWord 20 = .ok (.ireturn, 1) := by decide +kernel
theorem dX3_accept_0 : decode cX3_accept 0 = .ok (.iload_n 1, 1) := by decide +kernel
theorem dX3_accept_1 : decode cX3_accept 1 = .ok (.ifCond .ne 8, 3) := by decide +kernel
theorem dX3_accept_4 : decode cX3_accept 4 = .ok (.aload_n 0, 1) := by decide +kernel
theorem dX3_accept_5 : decode cX3_accept 5 = .ok (.iload_n 2, 1) := by decide +kernel
theorem dX3_accept_6 : decode cX3_accept 6 = .ok (.putfield 9, 3) := by decide +kernel
theorem dX3_accept_9 : decode cX3_accept 9 = .ok (.iload_n 1, 1) := by decide +kernel
theorem dX3_accept_10 : decode cX3_accept 10 = .ok (.ireturn, 1) := by decide +kernel
theorem dX4_init_0 : decode cX4_init 0 = .ok (.aload_n 0, 1) := by decide +kernel
theorem dX4_init_1 : decode cX4_init 1 = .ok (.invokespecial 1, 3) := by decide +kernel
theorem dX4_init_4 : decode cX4_init 4 = .ok (.aload_n 0, 1) := by decide +kernel
theorem dX4_init_5 : decode cX4_init 5 = .ok (.iconst 0, 1) := by decide +kernel
theorem dX4_init_6 : decode cX4_init 6 = .ok (.putfield 7, 3) := by decide +kernel
theorem dX4_init_9 : decode cX4_init 9 = .ok (.aload_n 0, 1) := by decide +kernel
theorem dX4_init_10 : decode cX4_init 10 = .ok (.iconst 0, 1) := by decide +kernel
theorem dX4_init_11 : decode cX4_init 11 = .ok (.putfield 13, 3) := by decide +kernel
theorem dX4_init_14 : decode cX4_init 14 = .ok (.aload_n 0, 1) := by decide +kernel
theorem dX4_init_15 : decode cX4_init 15 = .ok (.iconst 0, 1) := by decide +kernel
theorem dX4_init_16 : decode cX4_init 16 = .ok (.putfield 16, 3) := by decide +kernel
theorem dX4_init_19 : decode cX4_init 19 = .ok (.aload_n 0, 1) := by decide +kernel
theorem dX4_init_20 : decode cX4_init 20 = .ok (.lconst 0, 1) := by decide +kernel
theorem dX4_init_21 : decode cX4_init 21 = .ok (.putfield 19, 3) := by decide +kernel
theorem dX4_init_24 : decode cX4_init 24 = .ok (.aload_n 0, 1) := by decide +kernel
theorem dX4_init_25 : decode cX4_init 25 = .ok (.lconst 0, 1) := by decide +kernel
theorem dX4_init_26 : decode cX4_init 26 = .ok (.putfield 23, 3) := by decide +kernel
theorem dX4_init_29 : decode cX4_init 29 = .ok (.aload_n 0, 1) := by decide +kernel
theorem dX4_init_30 : decode cX4_init 30 = .ok (.lconst 0, 1) := by decide +kernel
theorem dX4_init_31 : decode cX4_init 31 = .ok (.putfield 26, 3) := by decide +kernel
theorem dX4_init_34 : decode cX4_init 34 = .ok (.return_, 1) := by decide +kernel
theorem dX5_init_0 : decode cX5_init 0 = .ok (.aload_n 0, 1) := by decide +kernel
theorem dX5_init_1 : decode cX5_init 1 = .ok (.invokespecial 3, 3) := by decide +kernel
theorem dX5_init_4 : decode cX5_init 4 = .ok (.aload_n 0, 1) := by decide +kernel
theorem dX5_init_5 : decode cX5_init 5 = .ok (.sipush 1300, 3) := by decide +kernel
theorem dX5_init_8 : decode cX5_init 8 = .ok (.newarray .byte, 2) := by decide +kernel
theorem dX5_init_10 : decode cX5_init 10 = .ok (.putfield 9, 3) := by decide +kernel
theorem dX5_init_13 : decode cX5_init 13 = .ok (.aload_n 0, 1) := by decide +kernel
theorem dX5_init_14 : decode cX5_init 14 = .ok (.iconst 0, 1) := by decide +kernel
theorem dX5_init_15 : decode cX5_init 15 = .ok (.putfield 15, 3) := by decide +kernel
theorem dX5_init_18 : decode cX5_init 18 = .ok (.aload_n 0, 1) := by decide +kernel
theorem dX5_init_19 : decode cX5_init 19 = .ok (.bipush 20, 2) := by decide +kernel
theorem dX5_init_21 : decode cX5_init 21 = .ok (.newarray .byte, 2) := by decide +kernel
theorem dX5_init_23 : decode cX5_init 23 = .ok (.putfield 19, 3) := by decide +kernel
theorem dX5_init_26 : decode cX5_init 26 = .ok (.return_, 1) := by decide +kernel
theorem dX5_write_0 : decode cX5_write 0 = .ok (.aload_n 0, 1) := by decide +kernel
theorem dX5_write_1 : decode cX5_write 1 = .ok (.iconst 0, 1) := by decide +kernel
theorem dX5_write_2 : decode cX5_write 2 = .ok (.putfield 15, 3) := by decide +kernel
theorem dX5_write_5 : decode cX5_write 5 = .ok (.aload_n 0, 1) := by decide +kernel
theorem dX5_write_6 : decode cX5_write 6 = .ok (.ldc 22, 2) := by decide +kernel
theorem dX5_write_8 : decode cX5_write 8 = .ok (.invokevirtual 24, 3) := by decide +kernel
theorem dX5_write_11 : decode cX5_write 11 = .ok (.aload_n 0, 1) := by decide +kernel
theorem dX5_write_12 : decode cX5_write 12 = .ok (.aload_n 1, 1) := by decide +kernel
theorem dX5_write_13 : decode cX5_write 13 = .ok (.getfield 28, 3) := by decide +kernel
theorem dX5_write_16 : decode cX5_write 16 = .ok (.i2l, 1) := by decide +kernel
theorem dX5_write_17 : decode cX5_write 17 = .ok (.invokevirtual 33, 3) := by decide +kernel
theorem dX5_write_20 : decode cX5_write 20 = .ok (.aload_n 0, 1) := by decide +kernel
theorem dX5_write_21 : decode cX5_write 21 = .ok (.ldc 37, 2) := by decide +kernel
theorem dX5_write_23 : decode cX5_write 23 = .ok (.invokevirtual 24, 3) := by decide +kernel
theorem dX5_write_26 : decode cX5_write 26 = .ok (.aload_n 0, 1) := by decide +kernel
theorem dX5_write_27 : decode cX5_write 27 = .ok (.aload_n 1, 1) := by decide +kernel
theorem dX5_write_28 : decode cX5_write 28 = .ok (.invokevirtual 39, 3) := by decide +kernel
theorem dX5_write_31 : decode cX5_write 31 = .ok (.invokevirtual 33, 3) := by decide +kernel
theorem dX5_write_34 : decode cX5_write 34 = .ok (.aload_n 0, 1) := by decide +kernel
theorem dX5_write_35 : decode cX5_write 35 = .ok (.ldc 43, 2) := by decide +kernel
theorem dX5_write_37 : decode cX5_write 37 = .ok (.invokevirtual 24, 3) := by decide +kernel
theorem dX5_write_40 : decode cX5_write 40 = .ok (.iconst 0, 1) := by decide +kernel
theorem dX5_write_41 : decode cX5_write 41 = .ok (.istore_n 2, 1) := by decide +kernel
theorem dX5_write_42 : decode cX5_write 42 = .ok (.iload_n 2, 1) := by decide +kernel
theorem dX5_write_43 : decode cX5_write 43 = .ok (.aload_n 1, 1) := by decide +kernel
theorem dX5_write_44 : decode cX5_write 44 = .ok (.getfield 45, 3) := by decide +kernel
theorem dX5_write_47 : decode cX5_write 47 = .ok (.if_icmp .ge 20, 3) := by decide +kernel
theorem dX5_write_67 : decode cX5_write 67 = .ok (.return_, 1) := by decide +kernel
theorem dX5_putText_0 : decode cX5_putText 0 = .ok (.iconst 0, 1) := by decide +kernel
theorem dX5_putText_1 : decode cX5_putText 1 = .ok (.istore_n 2, 1) := by decide +kernel
theorem dX5_putText_2 : decode cX5_putText 2 = .ok (.iload_n 2, 1) := by decide +kernel
theorem dX5_putText_3 : decode cX5_putText 3 = .ok (.aload_n 1, 1) := by decide +kernel
theorem dX5_putText_4 : decode cX5_putText 4 = .ok (.invokevirtual 85, 3) := by decide +kernel
theorem dX5_putText_7 : decode cX5_putText 7 = .ok (.if_icmp .ge 19, 3) := by decide +kernel
theorem dX5_putText_10 : decode cX5_putText 10 = .ok (.aload_n 0, 1) := by decide +kernel
theorem dX5_putText_11 : decode cX5_putText 11 = .ok (.aload_n 1, 1) := by decide +kernel
theorem dX5_putText_12 : decode cX5_putText 12 = .ok (.iload_n 2, 1) := by decide +kernel
theorem dX5_putText_13 : decode cX5_putText 13 = .ok (.invokevirtual 90, 3) := by decide +kernel
theorem dX5_putText_16 : decode cX5_putText 16 = .ok (.i2b, 1) := by decide +kernel
theorem dX5_putText_17 : decode cX5_putText 17 = .ok (.invokevirtual 94, 3) := by decide +kernel
theorem dX5_putText_20 : decode cX5_putText 20 = .ok (.iinc 2 1, 3) := by decide +kernel
theorem dX5_putText_23 : decode cX5_putText 23 = .ok (.goto (-21), 3) := by decide +kernel
theorem dX5_putText_26 : decode cX5_putText 26 = .ok (.return_, 1) := by decide +kernel
theorem dX5_putNumber_0 : decode cX5_putNumber 0 = .ok (.lload_n 1, 1) := by decide +kernel
theorem dX5_putNumber_1 : decode cX5_putNumber 1 = .ok (.lconst 0, 1) := by decide +kernel
theorem dX5_putNumber_2 : decode cX5_putNumber 2 = .ok (.lcmp, 1) := by decide +kernel
theorem dX5_putNumber_3 : decode cX5_putNumber 3 = .ok (.ifCond .ge 9, 3) := by decide +kernel
theorem dX5_putNumber_12 : decode cX5_putNumber 12 = .ok (.lload_n 1, 1) := by decide +kernel
theorem dX5_putNumber_13 : decode cX5_putNumber 13 = .ok (.lstore_n 3, 1) := by decide +kernel
theorem dX5_putNumber_14 : decode cX5_putNumber 14 = .ok (.bipush 20, 2) := by decide +kernel
theorem dX5_putNumber_16 : decode cX5_putNumber 16 = .ok (.istore 5, 2) := by decide +kernel
theorem dX5_putNumber_18 : decode cX5_putNumber 18 = .ok (.iinc 5 (-1), 3) := by decide +kernel
theorem dX5_putNumber_21 : decode cX5_putNumber 21 = .ok (.aload_n 0, 1) := by decide +kernel
theorem dX5_putNumber_22 : decode cX5_putNumber 22 = .ok (.getfield 19, 3) := by decide +kernel
theorem dX5_putNumber_25 : decode cX5_putNumber 25 = .ok (.iload 5, 2) := by decide +kernel
theorem dX5_putNumber_27 : decode cX5_putNumber 27 = .ok (.ldc2_w 100, 3) := by decide +kernel
theorem dX5_putNumber_30 : decode cX5_putNumber 30 = .ok (.lload_n 3, 1) := by decide +kernel
theorem dX5_putNumber_31 : decode cX5_putNumber 31 = .ok (.ldc2_w 102, 3) := by decide +kernel
theorem dX5_putNumber_34 : decode cX5_putNumber 34 = .ok (.lrem, 1) := by decide +kernel
theorem dX5_putNumber_35 : decode cX5_putNumber 35 = .ok (.invokestatic 104, 3) := by decide +kernel
theorem dX5_putNumber_38 : decode cX5_putNumber 38 = .ok (.ladd, 1) := by decide +kernel
theorem dX5_putNumber_39 : decode cX5_putNumber 39 = .ok (.l2i, 1) := by decide +kernel
theorem dX5_putNumber_40 : decode cX5_putNumber 40 = .ok (.i2b, 1) := by decide +kernel
theorem dX5_putNumber_41 : decode cX5_putNumber 41 = .ok (.bastore, 1) := by decide +kernel
theorem dX5_putNumber_42 : decode cX5_putNumber 42 = .ok (.lload_n 3, 1) := by decide +kernel
theorem dX5_putNumber_43 : decode cX5_putNumber 43 = .ok (.ldc2_w 102, 3) := by decide +kernel
theorem dX5_putNumber_46 : decode cX5_putNumber 46 = .ok (.ldiv, 1) := by decide +kernel
theorem dX5_putNumber_47 : decode cX5_putNumber 47 = .ok (.lstore_n 3, 1) := by decide +kernel
theorem dX5_putNumber_48 : decode cX5_putNumber 48 = .ok (.lload_n 3, 1) := by decide +kernel
theorem dX5_putNumber_49 : decode cX5_putNumber 49 = .ok (.lconst 0, 1) := by decide +kernel
theorem dX5_putNumber_50 : decode cX5_putNumber 50 = .ok (.lcmp, 1) := by decide +kernel
theorem dX5_putNumber_51 : decode cX5_putNumber 51 = .ok (.ifCond .eq 8, 3) := by decide +kernel
theorem dX5_putNumber_59 : decode cX5_putNumber 59 = .ok (.iload 5, 2) := by decide +kernel
theorem dX5_putNumber_61 : decode cX5_putNumber 61 = .ok (.istore 6, 2) := by decide +kernel
theorem dX5_putNumber_63 : decode cX5_putNumber 63 = .ok (.iload 6, 2) := by decide +kernel
theorem dX5_putNumber_65 : decode cX5_putNumber 65 = .ok (.bipush 20, 2) := by decide +kernel
theorem dX5_putNumber_67 : decode cX5_putNumber 67 = .ok (.if_icmp .ge 20, 3) := by decide +kernel
theorem dX5_putNumber_70 : decode cX5_putNumber 70 = .ok (.aload_n 0, 1) := by decide +kernel
theorem dX5_putNumber_71 : decode cX5_putNumber 71 = .ok (.aload_n 0, 1) := by decide +kernel
theorem dX5_putNumber_72 : decode cX5_putNumber 72 = .ok (.getfield 19, 3) := by decide +kernel
theorem dX5_putNumber_75 : decode cX5_putNumber 75 = .ok (.iload 6, 2) := by decide +kernel
theorem dX5_putNumber_77 : decode cX5_putNumber 77 = .ok (.baload, 1) := by decide +kernel
theorem dX5_putNumber_78 : decode cX5_putNumber 78 = .ok (.invokevirtual 94, 3) := by decide +kernel
theorem dX5_putNumber_81 : decode cX5_putNumber 81 = .ok (.iinc 6 1, 3) := by decide +kernel
theorem dX5_putNumber_84 : decode cX5_putNumber 84 = .ok (.goto (-21), 3) := by decide +kernel
theorem dX5_putNumber_87 : decode cX5_putNumber 87 = .ok (.return_, 1) := by decide +kernel
theorem dX5_putByte_0 : decode cX5_putByte 0 = .ok (.aload_n 0, 1) := by decide +kernel
theorem dX5_putByte_1 : decode cX5_putByte 1 = .ok (.getfield 15, 3) := by decide +kernel
theorem dX5_putByte_4 : decode cX5_putByte 4 = .ok (.sipush 1300, 3) := by decide +kernel
theorem dX5_putByte_7 : decode cX5_putByte 7 = .ok (.if_icmp .ge 23, 3) := by decide +kernel
theorem dX5_putByte_10 : decode cX5_putByte 10 = .ok (.aload_n 0, 1) := by decide +kernel
theorem dX5_putByte_11 : decode cX5_putByte 11 = .ok (.getfield 9, 3) := by decide +kernel
theorem dX5_putByte_14 : decode cX5_putByte 14 = .ok (.aload_n 0, 1) := by decide +kernel
theorem dX5_putByte_15 : decode cX5_putByte 15 = .ok (.getfield 15, 3) := by decide +kernel
theorem dX5_putByte_18 : decode cX5_putByte 18 = .ok (.iload_n 1, 1) := by decide +kernel
theorem dX5_putByte_19 : decode cX5_putByte 19 = .ok (.bastore, 1) := by decide +kernel
theorem dX5_putByte_20 : decode cX5_putByte 20 = .ok (.aload_n 0, 1) := by decide +kernel
theorem dX5_putByte_21 : decode cX5_putByte 21 = .ok (.dup, 1) := by decide +kernel
theorem dX5_putByte_22 : decode cX5_putByte 22 = .ok (.getfield 15, 3) := by decide +kernel
theorem dX5_putByte_25 : decode cX5_putByte 25 = .ok (.iconst 1, 1) := by decide +kernel
theorem dX5_putByte_26 : decode cX5_putByte 26 = .ok (.iadd, 1) := by decide +kernel
theorem dX5_putByte_27 : decode cX5_putByte 27 = .ok (.putfield 15, 3) := by decide +kernel
theorem dX5_putByte_30 : decode cX5_putByte 30 = .ok (.return_, 1) := by decide +kernel
theorem dX6_init_0 : decode cX6_init 0 = .ok (.aload_n 0, 1) := by decide +kernel
theorem dX6_init_1 : decode cX6_init 1 = .ok (.invokespecial 1, 3) := by decide +kernel
theorem dX6_init_4 : decode cX6_init 4 = .ok (.aload_n 0, 1) := by decide +kernel
theorem dX6_init_5 : decode cX6_init 5 = .ok (.iconst 0, 1) := by decide +kernel
theorem dX6_init_6 : decode cX6_init 6 = .ok (.putfield 7, 3) := by decide +kernel
theorem dX6_init_9 : decode cX6_init 9 = .ok (.aload_n 0, 1) := by decide +kernel
theorem dX6_init_10 : decode cX6_init 10 = .ok (.iconst 0, 1) := by decide +kernel
theorem dX6_init_11 : decode cX6_init 11 = .ok (.putfield 13, 3) := by decide +kernel
theorem dX6_init_14 : decode cX6_init 14 = .ok (.aload_n 0, 1) := by decide +kernel
theorem dX6_init_15 : decode cX6_init 15 = .ok (.iconst 0, 1) := by decide +kernel
theorem dX6_init_16 : decode cX6_init 16 = .ok (.putfield 16, 3) := by decide +kernel
theorem dX6_init_19 : decode cX6_init 19 = .ok (.aload_n 0, 1) := by decide +kernel
theorem dX6_init_20 : decode cX6_init 20 = .ok (.lconst 0, 1) := by decide +kernel
theorem dX6_init_21 : decode cX6_init 21 = .ok (.putfield 20, 3) := by decide +kernel
theorem dX6_init_24 : decode cX6_init 24 = .ok (.aload_n 0, 1) := by decide +kernel
theorem dX6_init_25 : decode cX6_init 25 = .ok (.lconst 0, 1) := by decide +kernel
theorem dX6_init_26 : decode cX6_init 26 = .ok (.putfield 24, 3) := by decide +kernel
theorem dX6_init_29 : decode cX6_init 29 = .ok (.return_, 1) := by decide +kernel
theorem dX7_init_0 : decode cX7_init 0 = .ok (.aload_n 0, 1) := by decide +kernel
theorem dX7_init_1 : decode cX7_init 1 = .ok (.invokespecial 3, 3) := by decide +kernel
theorem dX7_init_4 : decode cX7_init 4 = .ok (.aload_n 0, 1) := by decide +kernel
theorem dX7_init_5 : decode cX7_init 5 = .ok (.iconst (-1), 1) := by decide +kernel
theorem dX7_init_6 : decode cX7_init 6 = .ok (.putfield 9, 3) := by decide +kernel
theorem dX7_init_9 : decode cX7_init 9 = .ok (.aload_n 0, 1) := by decide +kernel
theorem dX7_init_10 : decode cX7_init 10 = .ok (.iconst 0, 1) := by decide +kernel
theorem dX7_init_11 : decode cX7_init 11 = .ok (.putfield 15, 3) := by decide +kernel
theorem dX7_init_14 : decode cX7_init 14 = .ok (.aload_n 0, 1) := by decide +kernel
theorem dX7_init_15 : decode cX7_init 15 = .ok (.iconst 0, 1) := by decide +kernel
theorem dX7_init_16 : decode cX7_init 16 = .ok (.putfield 18, 3) := by decide +kernel
theorem dX7_init_19 : decode cX7_init 19 = .ok (.aload_n 0, 1) := by decide +kernel
theorem dX7_init_20 : decode cX7_init 20 = .ok (.aload_n 1, 1) := by decide +kernel
theorem dX7_init_21 : decode cX7_init 21 = .ok (.putfield 21, 3) := by decide +kernel
theorem dX7_init_24 : decode cX7_init 24 = .ok (.aload_n 0, 1) := by decide +kernel
theorem dX7_init_25 : decode cX7_init 25 = .ok (.aload_n 2, 1) := by decide +kernel
theorem dX7_init_26 : decode cX7_init 26 = .ok (.putfield 25, 3) := by decide +kernel
theorem dX7_init_29 : decode cX7_init 29 = .ok (.aload_n 0, 1) := by decide +kernel
theorem dX7_init_30 : decode cX7_init 30 = .ok (.aload_n 3, 1) := by decide +kernel
theorem dX7_init_31 : decode cX7_init 31 = .ok (.putfield 29, 3) := by decide +kernel
theorem dX7_init_34 : decode cX7_init 34 = .ok (.return_, 1) := by decide +kernel
theorem dX8_init_0 : decode cX8_init 0 = .ok (.aload_n 0, 1) := by decide +kernel
theorem dX8_init_1 : decode cX8_init 1 = .ok (.invokespecial 3, 3) := by decide +kernel
theorem dX8_init_4 : decode cX8_init 4 = .ok (.aload_n 0, 1) := by decide +kernel
theorem dX8_init_5 : decode cX8_init 5 = .ok (.iconst 0, 1) := by decide +kernel
theorem dX8_init_6 : decode cX8_init 6 = .ok (.putfield 9, 3) := by decide +kernel
theorem dX8_init_9 : decode cX8_init 9 = .ok (.aload_n 0, 1) := by decide +kernel
theorem dX8_init_10 : decode cX8_init 10 = .ok (.iconst 0, 1) := by decide +kernel
theorem dX8_init_11 : decode cX8_init 11 = .ok (.putfield 15, 3) := by decide +kernel
theorem dX8_init_14 : decode cX8_init 14 = .ok (.aload_n 0, 1) := by decide +kernel
theorem dX8_init_15 : decode cX8_init 15 = .ok (.lconst 0, 1) := by decide +kernel
theorem dX8_init_16 : decode cX8_init 16 = .ok (.putfield 18, 3) := by decide +kernel
theorem dX8_init_19 : decode cX8_init 19 = .ok (.aload_n 0, 1) := by decide +kernel
theorem dX8_init_20 : decode cX8_init 20 = .ok (.lconst 0, 1) := by decide +kernel
theorem dX8_init_21 : decode cX8_init 21 = .ok (.putfield 22, 3) := by decide +kernel
theorem dX8_init_24 : decode cX8_init 24 = .ok (.aload_n 0, 1) := by decide +kernel
theorem dX8_init_25 : decode cX8_init 25 = .ok (.ldc2_w 25, 3) := by decide +kernel
theorem dX8_init_28 : decode cX8_init 28 = .ok (.putfield 27, 3) := by decide +kernel
theorem dX8_init_31 : decode cX8_init 31 = .ok (.return_, 1) := by decide +kernel
theorem dX9_init_0 : decode cX9_init 0 = .ok (.aload_n 0, 1) := by decide +kernel
theorem dX9_init_1 : decode cX9_init 1 = .ok (.invokespecial 3, 3) := by decide +kernel
theorem dX9_init_4 : decode cX9_init 4 = .ok (.aload_n 0, 1) := by decide +kernel
theorem dX9_init_5 : decode cX9_init 5 = .ok (.sipush 400, 3) := by decide +kernel
theorem dX9_init_8 : decode cX9_init 8 = .ok (.newarray .char, 2) := by decide +kernel
theorem dX9_init_10 : decode cX9_init 10 = .ok (.putfield 9, 3) := by decide +kernel
theorem dX9_init_13 : decode cX9_init 13 = .ok (.aload_n 0, 1) := by decide +kernel
theorem dX9_init_14 : decode cX9_init 14 = .ok (.iconst 0, 1) := by decide +kernel
theorem dX9_init_15 : decode cX9_init 15 = .ok (.putfield 15, 3) := by decide +kernel
theorem dX9_init_18 : decode cX9_init 18 = .ok (.aload_n 0, 1) := by decide +kernel
theorem dX9_init_19 : decode cX9_init 19 = .ok (.iconst 0, 1) := by decide +kernel
theorem dX9_init_20 : decode cX9_init 20 = .ok (.putfield 19, 3) := by decide +kernel
theorem dX9_init_23 : decode cX9_init 23 = .ok (.aload_n 0, 1) := by decide +kernel
theorem dX9_init_24 : decode cX9_init 24 = .ok (.iconst 0, 1) := by decide +kernel
theorem dX9_init_25 : decode cX9_init 25 = .ok (.putfield 22, 3) := by decide +kernel
theorem dX9_init_28 : decode cX9_init 28 = .ok (.aload_n 0, 1) := by decide +kernel
theorem dX9_init_29 : decode cX9_init 29 = .ok (.iconst 0, 1) := by decide +kernel
theorem dX9_init_30 : decode cX9_init 30 = .ok (.putfield 25, 3) := by decide +kernel
theorem dX9_init_33 : decode cX9_init 33 = .ok (.aload_n 0, 1) := by decide +kernel
theorem dX9_init_34 : decode cX9_init 34 = .ok (.iconst 0, 1) := by decide +kernel
theorem dX9_init_35 : decode cX9_init 35 = .ok (.putfield 28, 3) := by decide +kernel
theorem dX9_init_38 : decode cX9_init 38 = .ok (.aload_n 0, 1) := by decide +kernel
theorem dX9_init_39 : decode cX9_init 39 = .ok (.iconst (-1), 1) := by decide +kernel
theorem dX9_init_40 : decode cX9_init 40 = .ok (.putfield 31, 3) := by decide +kernel
theorem dX9_init_43 : decode cX9_init 43 = .ok (.return_, 1) := by decide +kernel
theorem dX9_putFour_0 : decode cX9_putFour 0 = .ok (.bipush 24, 2) := by decide +kernel
theorem dX9_putFour_2 : decode cX9_putFour 2 = .ok (.istore_n 2, 1) := by decide +kernel
theorem dX9_putFour_3 : decode cX9_putFour 3 = .ok (.iload_n 2, 1) := by decide +kernel
theorem dX9_putFour_4 : decode cX9_putFour 4 = .ok (.ifCond .lt 46, 3) := by decide +kernel
theorem dX9_putFour_7 : decode cX9_putFour 7 = .ok (.aload_n 0, 1) := by decide +kernel
theorem dX9_putFour_8 : decode cX9_putFour 8 = .ok (.getfield 15, 3) := by decide +kernel
theorem dX9_putFour_11 : decode cX9_putFour 11 = .ok (.sipush 400, 3) := by decide +kernel
theorem dX9_putFour_14 : decode cX9_putFour 14 = .ok (.if_icmp .ge 36, 3) := by decide +kernel
theorem dX9_putFour_17 : decode cX9_putFour 17 = .ok (.aload_n 0, 1) := by decide +kernel
theorem dX9_putFour_18 : decode cX9_putFour 18 = .ok (.getfield 9, 3) := by decide +kernel
theorem dX9_putFour_21 : decode cX9_putFour 21 = .ok (.aload_n 0, 1) := by decide +kernel
theorem dX9_putFour_22 : decode cX9_putFour 22 = .ok (.getfield 15, 3) := by decide +kernel
theorem dX9_putFour_25 : decode cX9_putFour 25 = .ok (.iload_n 1, 1) := by decide +kernel
theorem dX9_putFour_26 : decode cX9_putFour 26 = .ok (.iload_n 2, 1) := by decide +kernel
theorem dX9_putFour_27 : decode cX9_putFour 27 = .ok (.iushr, 1) := by decide +kernel
theorem dX9_putFour_28 : decode cX9_putFour 28 = .ok (.sipush 255, 3) := by decide +kernel
theorem dX9_putFour_31 : decode cX9_putFour 31 = .ok (.iand, 1) := by decide +kernel
theorem dX9_putFour_32 : decode cX9_putFour 32 = .ok (.i2c, 1) := by decide +kernel
theorem dX9_putFour_33 : decode cX9_putFour 33 = .ok (.castore, 1) := by decide +kernel
theorem dX9_putFour_34 : decode cX9_putFour 34 = .ok (.aload_n 0, 1) := by decide +kernel
theorem dX9_putFour_35 : decode cX9_putFour 35 = .ok (.dup, 1) := by decide +kernel
theorem dX9_putFour_36 : decode cX9_putFour 36 = .ok (.getfield 15, 3) := by decide +kernel
theorem dX9_putFour_39 : decode cX9_putFour 39 = .ok (.iconst 1, 1) := by decide +kernel
theorem dX9_putFour_40 : decode cX9_putFour 40 = .ok (.iadd, 1) := by decide +kernel
theorem dX9_putFour_41 : decode cX9_putFour 41 = .ok (.putfield 15, 3) := by decide +kernel
theorem dX9_putFour_44 : decode cX9_putFour 44 = .ok (.iinc 2 (-8), 3) := by decide +kernel
theorem dX9_putFour_47 : decode cX9_putFour 47 = .ok (.goto (-44), 3) := by decide +kernel
theorem dX9_putFour_50 : decode cX9_putFour 50 = .ok (.return_, 1) := by decide +kernel
theorem dX9_takeBuffer_0 : decode cX9_takeBuffer 0 = .ok (.aload_n 0, 1) := by decide +kernel
theorem dX9_takeBuffer_1 : decode cX9_takeBuffer 1 = .ok (.aload_n 0, 1) := by decide +kernel
theorem dX9_takeBuffer_2 : decode cX9_takeBuffer 2 = .ok (.getfield 15, 3) := by decide +kernel
theorem dX9_takeBuffer_5 : decode cX9_takeBuffer 5 = .ok (.putfield 19, 3) := by decide +kernel
theorem dX9_takeBuffer_8 : decode cX9_takeBuffer 8 = .ok (.aload_n 0, 1) := by decide +kernel
theorem dX9_takeBuffer_9 : decode cX9_takeBuffer 9 = .ok (.iconst 0, 1) := by decide +kernel
theorem dX9_takeBuffer_10 : decode cX9_takeBuffer 10 = .ok (.putfield 15, 3) := by decide +kernel
theorem dX9_takeBuffer_13 : decode cX9_takeBuffer 13 = .ok (.aload_n 0, 1) := by decide +kernel
theorem dX9_takeBuffer_14 : decode cX9_takeBuffer 14 = .ok (.iconst 0, 1) := by decide +kernel
theorem dX9_takeBuffer_15 : decode cX9_takeBuffer 15 = .ok (.putfield 25, 3) := by decide +kernel
theorem dX9_takeBuffer_18 : decode cX9_takeBuffer 18 = .ok (.aload_n 0, 1) := by decide +kernel
theorem dX9_takeBuffer_19 : decode cX9_takeBuffer 19 = .ok (.iconst 0, 1) := by decide +kernel
theorem dX9_takeBuffer_20 : decode cX9_takeBuffer 20 = .ok (.putfield 22, 3) := by decide +kernel
theorem dX9_takeBuffer_23 : decode cX9_takeBuffer 23 = .ok (.aload_n 0, 1) := by decide +kernel
theorem dX9_takeBuffer_24 : decode cX9_takeBuffer 24 = .ok (.iconst 0, 1) := by decide +kernel
theorem dX9_takeBuffer_25 : decode cX9_takeBuffer 25 = .ok (.putfield 28, 3) := by decide +kernel
theorem dX9_takeBuffer_28 : decode cX9_takeBuffer 28 = .ok (.return_, 1) := by decide +kernel
theorem dX9_advance_0 : decode cX9_advance 0 = .ok (.aload_n 0, 1) := by decide +kernel
theorem dX9_advance_1 : decode cX9_advance 1 = .ok (.aload_n 0, 1) := by decide +kernel
theorem dX9_advance_2 : decode cX9_advance 2 = .ok (.getfield 22, 3) := by decide +kernel
theorem dX9_advance_5 : decode cX9_advance 5 = .ok (.putfield 25, 3) := by decide +kernel
theorem dX9_advance_8 : decode cX9_advance 8 = .ok (.aload_n 0, 1) := by decide +kernel
theorem dX9_advance_9 : decode cX9_advance 9 = .ok (.getfield 25, 3) := by decide +kernel
theorem dX9_advance_12 : decode cX9_advance 12 = .ok (.aload_n 0, 1) := by decide +kernel
theorem dX9_advance_13 : decode cX9_advance 13 = .ok (.getfield 19, 3) := by decide +kernel
theorem dX9_advance_16 : decode cX9_advance 16 = .ok (.if_icmp .ge 44, 3) := by decide +kernel
theorem dX9_advance_60 : decode cX9_advance 60 = .ok (.aload_n 0, 1) := by decide +kernel
theorem dX9_advance_61 : decode cX9_advance 61 = .ok (.aload_n 0, 1) := by decide +kernel
theorem dX9_advance_62 : decode cX9_advance 62 = .ok (.getfield 25, 3) := by decide +kernel
theorem dX9_advance_65 : decode cX9_advance 65 = .ok (.putfield 22, 3) := by decide +kernel
theorem dX9_advance_68 : decode cX9_advance 68 = .ok (.aload_n 0, 1) := by decide +kernel
theorem dX9_advance_69 : decode cX9_advance 69 = .ok (.getfield 25, 3) := by decide +kernel
theorem dX9_advance_72 : decode cX9_advance 72 = .ok (.aload_n 0, 1) := by decide +kernel
theorem dX9_advance_73 : decode cX9_advance 73 = .ok (.getfield 19, 3) := by decide +kernel
theorem dX9_advance_76 : decode cX9_advance 76 = .ok (.if_icmp .lt 11, 3) := by decide +kernel
theorem dX9_advance_79 : decode cX9_advance 79 = .ok (.aload_n 0, 1) := by decide +kernel
theorem dX9_advance_80 : decode cX9_advance 80 = .ok (.iconst 0, 1) := by decide +kernel
theorem dX9_advance_81 : decode cX9_advance 81 = .ok (.putfield 28, 3) := by decide +kernel
theorem dX9_advance_84 : decode cX9_advance 84 = .ok (.goto 185, 3) := by decide +kernel
theorem dX9_advance_269 : decode cX9_advance 269 = .ok (.return_, 1) := by decide +kernel
theorem dX9_isWord_0 : decode cX9_isWord 0 = .ok (.aload_n 0, 1) := by decide +kernel
theorem dX9_isWord_1 : decode cX9_isWord 1 = .ok (.getfield 28, 3) := by decide +kernel
theorem dX9_isWord_4 : decode cX9_isWord 4 = .ok (.iconst 1, 1) := by decide +kernel
theorem dX9_isWord_5 : decode cX9_isWord 5 = .ok (.if_icmp .ne 19, 3) := by decide +kernel
theorem dX9_isWord_24 : decode cX9_isWord 24 = .ok (.iconst 0, 1) := by decide +kernel
theorem dX9_isWord_25 : decode cX9_isWord 25 = .ok (.ireturn, 1) := by decide +kernel
theorem dX10_init_0 : decode cX10_init 0 = .ok (.aload_n 0, 1) := by decide +kernel
theorem dX10_init_1 : decode cX10_init 1 = .ok (.invokespecial 1, 3) := by decide +kernel
theorem dX10_init_4 : decode cX10_init 4 = .ok (.aload_n 0, 1) := by decide +kernel
theorem dX10_init_5 : decode cX10_init 5 = .ok (.new 7, 3) := by decide +kernel
theorem dX10_init_8 : decode cX10_init 8 = .ok (.dup, 1) := by decide +kernel
theorem dX10_init_9 : decode cX10_init 9 = .ok (.invokespecial 9, 3) := by decide +kernel
theorem dX10_init_12 : decode cX10_init 12 = .ok (.putfield 10, 3) := by decide +kernel
theorem dX10_init_15 : decode cX10_init 15 = .ok (.aload_n 0, 1) := by decide +kernel
theorem dX10_init_16 : decode cX10_init 16 = .ok (.iconst 0, 1) := by decide +kernel
theorem dX10_init_17 : decode cX10_init 17 = .ok (.putfield 16, 3) := by decide +kernel
theorem dX10_init_20 : decode cX10_init 20 = .ok (.aload_n 0, 1) := by decide +kernel
theorem dX10_init_21 : decode cX10_init 21 = .ok (.iconst (-1), 1) := by decide +kernel
theorem dX10_init_22 : decode cX10_init 22 = .ok (.putfield 20, 3) := by decide +kernel
theorem dX10_init_25 : decode cX10_init 25 = .ok (.aload_n 0, 1) := by decide +kernel
theorem dX10_init_26 : decode cX10_init 26 = .ok (.new 23, 3) := by decide +kernel
theorem dX10_init_29 : decode cX10_init 29 = .ok (.dup, 1) := by decide +kernel
theorem dX10_init_30 : decode cX10_init 30 = .ok (.invokespecial 25, 3) := by decide +kernel
theorem dX10_init_33 : decode cX10_init 33 = .ok (.putfield 26, 3) := by decide +kernel
theorem dX10_init_36 : decode cX10_init 36 = .ok (.aload_n 0, 1) := by decide +kernel
theorem dX10_init_37 : decode cX10_init 37 = .ok (.new 23, 3) := by decide +kernel
theorem dX10_init_40 : decode cX10_init 40 = .ok (.dup, 1) := by decide +kernel
theorem dX10_init_41 : decode cX10_init 41 = .ok (.invokespecial 25, 3) := by decide +kernel
theorem dX10_init_44 : decode cX10_init 44 = .ok (.putfield 30, 3) := by decide +kernel
theorem dX10_init_47 : decode cX10_init 47 = .ok (.aload_n 0, 1) := by decide +kernel
theorem dX10_init_48 : decode cX10_init 48 = .ok (.new 33, 3) := by decide +kernel
theorem dX10_init_51 : decode cX10_init 51 = .ok (.dup, 1) := by decide +kernel
theorem dX10_init_52 : decode cX10_init 52 = .ok (.invokespecial 35, 3) := by decide +kernel
theorem dX10_init_55 : decode cX10_init 55 = .ok (.putfield 36, 3) := by decide +kernel
theorem dX10_init_58 : decode cX10_init 58 = .ok (.aload_n 0, 1) := by decide +kernel
theorem dX10_init_59 : decode cX10_init 59 = .ok (.bipush 10, 2) := by decide +kernel
theorem dX10_init_61 : decode cX10_init 61 = .ok (.anewarray 23, 3) := by decide +kernel
theorem dX10_init_64 : decode cX10_init 64 = .ok (.putfield 40, 3) := by decide +kernel
theorem dX10_init_67 : decode cX10_init 67 = .ok (.aload_n 0, 1) := by decide +kernel
theorem dX10_init_68 : decode cX10_init 68 = .ok (.iconst 0, 1) := by decide +kernel
theorem dX10_init_69 : decode cX10_init 69 = .ok (.putfield 44, 3) := by decide +kernel
theorem dX10_init_72 : decode cX10_init 72 = .ok (.aload_n 0, 1) := by decide +kernel
theorem dX10_init_73 : decode cX10_init 73 = .ok (.iconst 0, 1) := by decide +kernel
theorem dX10_init_74 : decode cX10_init 74 = .ok (.putfield 47, 3) := by decide +kernel
theorem dX10_init_77 : decode cX10_init 77 = .ok (.aload_n 0, 1) := by decide +kernel
theorem dX10_init_78 : decode cX10_init 78 = .ok (.new 50, 3) := by decide +kernel
theorem dX10_init_81 : decode cX10_init 81 = .ok (.dup, 1) := by decide +kernel
theorem dX10_init_82 : decode cX10_init 82 = .ok (.invokespecial 52, 3) := by decide +kernel
theorem dX10_init_85 : decode cX10_init 85 = .ok (.putfield 53, 3) := by decide +kernel
theorem dX10_init_88 : decode cX10_init 88 = .ok (.return_, 1) := by decide +kernel
theorem dX10_appendText_0 : decode cX10_appendText 0 = .ok (.aload_n 0, 1) := by decide +kernel
theorem dX10_appendText_1 : decode cX10_appendText 1 = .ok (.getfield 10, 3) := by decide +kernel
theorem dX10_appendText_4 : decode cX10_appendText 4 = .ok (.getfield 57, 3) := by decide +kernel
theorem dX10_appendText_7 : decode cX10_appendText 7 = .ok (.bipush 20, 2) := by decide +kernel
theorem dX10_appendText_9 : decode cX10_appendText 9 = .ok (.iadd, 1) := by decide +kernel
theorem dX10_appendText_10 : decode cX10_appendText 10 = .ok (.sipush 400, 3) := by decide +kernel
theorem dX10_appendText_13 : decode cX10_appendText 13 = .ok (.if_icmp .le 13, 3) := by decide +kernel
theorem dX10_appendText_26 : decode cX10_appendText 26 = .ok (.aload_n 0, 1) := by decide +kernel
theorem dX10_appendText_27 : decode cX10_appendText 27 = .ok (.getfield 10, 3) := by decide +kernel
theorem dX10_appendText_30 : decode cX10_appendText 30 = .ok (.iload_n 1, 1) := by decide +kernel
theorem dX10_appendText_31 : decode cX10_appendText 31 = .ok (.invokevirtual 67, 3) := by decide +kernel
theorem dX10_appendText_34 : decode cX10_appendText 34 = .ok (.aload_n 0, 1) := by decide +kernel
theorem dX10_appendText_35 : decode cX10_appendText 35 = .ok (.getfield 10, 3) := by decide +kernel
theorem dX10_appendText_38 : decode cX10_appendText 38 = .ok (.iload_n 2, 1) := by decide +kernel
theorem dX10_appendText_39 : decode cX10_appendText 39 = .ok (.invokevirtual 67, 3) := by decide +kernel
theorem dX10_appendText_42 : decode cX10_appendText 42 = .ok (.aload_n 0, 1) := by decide +kernel
theorem dX10_appendText_43 : decode cX10_appendText 43 = .ok (.getfield 10, 3) := by decide +kernel
theorem dX10_appendText_46 : decode cX10_appendText 46 = .ok (.iload_n 3, 1) := by decide +kernel
theorem dX10_appendText_47 : decode cX10_appendText 47 = .ok (.invokevirtual 67, 3) := by decide +kernel
theorem dX10_appendText_50 : decode cX10_appendText 50 = .ok (.aload_n 0, 1) := by decide +kernel
theorem dX10_appendText_51 : decode cX10_appendText 51 = .ok (.getfield 10, 3) := by decide +kernel
theorem dX10_appendText_54 : decode cX10_appendText 54 = .ok (.iload 4, 2) := by decide +kernel
theorem dX10_appendText_56 : decode cX10_appendText 56 = .ok (.invokevirtual 67, 3) := by decide +kernel
theorem dX10_appendText_59 : decode cX10_appendText 59 = .ok (.aload_n 0, 1) := by decide +kernel
theorem dX10_appendText_60 : decode cX10_appendText 60 = .ok (.getfield 10, 3) := by decide +kernel
theorem dX10_appendText_63 : decode cX10_appendText 63 = .ok (.iload 5, 2) := by decide +kernel
theorem dX10_appendText_65 : decode cX10_appendText 65 = .ok (.invokevirtual 67, 3) := by decide +kernel
theorem dX10_appendText_68 : decode cX10_appendText 68 = .ok (.aload_n 0, 1) := by decide +kernel
theorem dX10_appendText_69 : decode cX10_appendText 69 = .ok (.getfield 10, 3) := by decide +kernel
theorem dX10_appendText_72 : decode cX10_appendText 72 = .ok (.getfield 57, 3) := by decide +kernel
theorem dX10_appendText_75 : decode cX10_appendText 75 = .ok (.ireturn, 1) := by decide +kernel
theorem dX10_truncateText_0 : decode cX10_truncateText 0 = .ok (.iload_n 1, 1) := by decide +kernel
theorem dX10_truncateText_1 : decode cX10_truncateText 1 = .ok (.ifCond .lt 14, 3) := by decide +kernel
theorem dX10_truncateText_4 : decode cX10_truncateText 4 = .ok (.iload_n 1, 1) := by decide +kernel
theorem dX10_truncateText_5 : decode cX10_truncateText 5 = .ok (.aload_n 0, 1) := by decide +kernel
theorem dX10_truncateText_6 : decode cX10_truncateText 6 = .ok (.getfield 10, 3) := by decide +kernel
theorem dX10_truncateText_9 : decode cX10_truncateText 9 = .ok (.getfield 57, 3) := by decide +kernel
theorem dX10_truncateText_12 : decode cX10_truncateText 12 = .ok (.if_icmp .le 13, 3) := by decide +kernel
theorem dX10_truncateText_15 : decode cX10_truncateText 15 = .ok (.new 71, 3) := by decide +kernel
theorem dX10_truncateText_18 : decode cX10_truncateText 18 = .ok (.dup, 1) := by decide +kernel
theorem dX10_truncateText_19 : decode cX10_truncateText 19 = .ok (.ldc 73, 2) := by decide +kernel
theorem dX10_truncateText_21 : decode cX10_truncateText 21 = .ok (.invokespecial 75, 3) := by decide +kernel
theorem dX10_truncateText_24 : decode cX10_truncateText 24 = .ok (.athrow, 1) := by decide +kernel
theorem dX10_truncateText_25 : decode cX10_truncateText 25 = .ok (.aload_n 0, 1) := by decide +kernel
theorem dX10_truncateText_26 : decode cX10_truncateText 26 = .ok (.getfield 10, 3) := by decide +kernel
theorem dX10_truncateText_29 : decode cX10_truncateText 29 = .ok (.iload_n 1, 1) := by decide +kernel
theorem dX10_truncateText_30 : decode cX10_truncateText 30 = .ok (.putfield 57, 3) := by decide +kernel
theorem dX10_truncateText_33 : decode cX10_truncateText 33 = .ok (.iload_n 1, 1) := by decide +kernel
theorem dX10_truncateText_34 : decode cX10_truncateText 34 = .ok (.ireturn, 1) := by decide +kernel
theorem dX10_parseFund_0 : decode cX10_parseFund 0 = .ok (.aload_n 0, 1) := by decide +kernel
theorem dX10_parseFund_1 : decode cX10_parseFund 1 = .ok (.getfield 10, 3) := by decide +kernel
theorem dX10_parseFund_4 : decode cX10_parseFund 4 = .ok (.invokevirtual 76, 3) := by decide +kernel
theorem dX10_parseFund_7 : decode cX10_parseFund 7 = .ok (.new 79, 3) := by decide +kernel
theorem dX10_parseFund_10 : decode cX10_parseFund 10 = .ok (.dup, 1) := by decide +kernel
theorem dX10_parseFund_11 : decode cX10_parseFund 11 = .ok (.aload_n 0, 1) := by decide +kernel
theorem dX10_parseFund_12 : decode cX10_parseFund 12 = .ok (.getfield 10, 3) := by decide +kernel
theorem dX10_parseFund_15 : decode cX10_parseFund 15 = .ok (.aload_n 0, 1) := by decide +kernel
theorem dX10_parseFund_16 : decode cX10_parseFund 16 = .ok (.getfield 30, 3) := by decide +kernel
theorem dX10_parseFund_19 : decode cX10_parseFund 19 = .ok (.invokespecial 81, 3) := by decide +kernel
theorem dX10_parseFund_22 : decode cX10_parseFund 22 = .ok (.astore_n 1, 1) := by decide +kernel
theorem dX10_parseFund_23 : decode cX10_parseFund 23 = .ok (.aload_n 1, 1) := by decide +kernel
theorem dX10_parseFund_24 : decode cX10_parseFund 24 = .ok (.invokevirtual 84, 3) := by decide +kernel
theorem dX10_parseFund_27 : decode cX10_parseFund 27 = .ok (.ifCond .ne 24, 3) := by decide +kernel
theorem dX10_parseFund_30 : decode cX10_parseFund 30 = .ok (.aload_n 0, 1) := by decide +kernel
theorem dX10_parseFund_31 : decode cX10_parseFund 31 = .ok (.aload_n 1, 1) := by decide +kernel
theorem dX10_parseFund_32 : decode cX10_parseFund 32 = .ok (.getfield 88, 3) := by decide +kernel
theorem dX10_parseFund_35 : decode cX10_parseFund 35 = .ok (.putfield 16, 3) := by decide +kernel
theorem dX10_parseFund_38 : decode cX10_parseFund 38 = .ok (.aload_n 0, 1) := by decide +kernel
theorem dX10_parseFund_39 : decode cX10_parseFund 39 = .ok (.aload_n 0, 1) := by decide +kernel
theorem dX10_parseFund_40 : decode cX10_parseFund 40 = .ok (.getfield 10, 3) := by decide +kernel
theorem dX10_parseFund_43 : decode cX10_parseFund 43 = .ok (.getfield 91, 3) := by decide +kernel
theorem dX10_parseFund_46 : decode cX10_parseFund 46 = .ok (.putfield 20, 3) := by decide +kernel
theorem dX10_parseFund_49 : decode cX10_parseFund 49 = .ok (.iconst (-1), 1) := by decide +kernel
theorem dX10_parseFund_50 : decode cX10_parseFund 50 = .ok (.ireturn, 1) := by decide +kernel
theorem dX10_errorCode_0 : decode cX10_errorCode 0 = .ok (.aload_n 0, 1) := by decide +kernel
theorem dX10_errorCode_1 : decode cX10_errorCode 1 = .ok (.getfield 16, 3) := by decide +kernel
theorem dX10_errorCode_4 : decode cX10_errorCode 4 = .ok (.ireturn, 1) := by decide +kernel
theorem dX10_errorPosition_0 : decode cX10_errorPosition 0 = .ok (.aload_n 0, 1) := by decide +kernel
theorem dX10_errorPosition_1 : decode cX10_errorPosition 1 = .ok (.getfield 20, 3) := by decide +kernel
theorem dX10_errorPosition_4 : decode cX10_errorPosition 4 = .ok (.ireturn, 1) := by decide +kernel
theorem dX10_subscribe_0 : decode cX10_subscribe 0 = .ok (.aload_n 0, 1) := by decide +kernel
theorem dX10_subscribe_1 : decode cX10_subscribe 1 = .ok (.getfield 26, 3) := by decide +kernel
theorem dX10_subscribe_4 : decode cX10_subscribe 4 = .ok (.iload_n 1, 1) := by decide +kernel
theorem dX10_subscribe_5 : decode cX10_subscribe 5 = .ok (.iload_n 2, 1) := by decide +kernel
theorem dX10_subscribe_6 : decode cX10_subscribe 6 = .ok (.invokevirtual 105, 3) := by decide +kernel
theorem dX10_subscribe_9 : decode cX10_subscribe 9 = .ok (.invokestatic 109, 3) := by decide +kernel
theorem dX10_subscribe_12 : decode cX10_subscribe 12 = .ok (.aload_n 0, 1) := by decide +kernel
theorem dX10_subscribe_13 : decode cX10_subscribe 13 = .ok (.invokevirtual 112, 3) := by decide +kernel
theorem dX10_subscribe_16 : decode cX10_subscribe 16 = .ok (.aload_n 0, 1) := by decide +kernel
theorem dX10_subscribe_17 : decode cX10_subscribe 17 = .ok (.getfield 26, 3) := by decide +kernel
theorem dX10_subscribe_20 : decode cX10_subscribe 20 = .ok (.iload_n 1, 1) := by decide +kernel
theorem dX10_subscribe_21 : decode cX10_subscribe 21 = .ok (.iconst 0, 1) := by decide +kernel
theorem dX10_subscribe_22 : decode cX10_subscribe 22 = .ok (.iload_n 2, 1) := by decide +kernel
theorem dX10_subscribe_23 : decode cX10_subscribe 23 = .ok (.i2l, 1) := by decide +kernel
theorem dX10_subscribe_24 : decode cX10_subscribe 24 = .ok (.invokevirtual 115, 3) := by decide +kernel
theorem dX10_subscribe_27 : decode cX10_subscribe 27 = .ok (.ireturn, 1) := by decide +kernel
theorem dX10_redeem_0 : decode cX10_redeem 0 = .ok (.aload_n 0, 1) := by decide +kernel
theorem dX10_redeem_1 : decode cX10_redeem 1 = .ok (.getfield 26, 3) := by decide +kernel
theorem dX10_redeem_4 : decode cX10_redeem 4 = .ok (.iload_n 1, 1) := by decide +kernel
theorem dX10_redeem_5 : decode cX10_redeem 5 = .ok (.iload_n 2, 1) := by decide +kernel
theorem dX10_redeem_6 : decode cX10_redeem 6 = .ok (.invokevirtual 119, 3) := by decide +kernel
theorem dX10_redeem_9 : decode cX10_redeem 9 = .ok (.invokestatic 109, 3) := by decide +kernel
theorem dX10_redeem_12 : decode cX10_redeem 12 = .ok (.aload_n 0, 1) := by decide +kernel
theorem dX10_redeem_13 : decode cX10_redeem 13 = .ok (.invokevirtual 112, 3) := by decide +kernel
theorem dX10_redeem_16 : decode cX10_redeem 16 = .ok (.aload_n 0, 1) := by decide +kernel
theorem dX10_redeem_17 : decode cX10_redeem 17 = .ok (.getfield 26, 3) := by decide +kernel
theorem dX10_redeem_20 : decode cX10_redeem 20 = .ok (.iload_n 1, 1) := by decide +kernel
theorem dX10_redeem_21 : decode cX10_redeem 21 = .ok (.iconst 1, 1) := by decide +kernel
theorem dX10_redeem_22 : decode cX10_redeem 22 = .ok (.iload_n 2, 1) := by decide +kernel
theorem dX10_redeem_23 : decode cX10_redeem 23 = .ok (.i2l, 1) := by decide +kernel
theorem dX10_redeem_24 : decode cX10_redeem 24 = .ok (.invokevirtual 115, 3) := by decide +kernel
theorem dX10_redeem_27 : decode cX10_redeem 27 = .ok (.ireturn, 1) := by decide +kernel
theorem dX10_withdraw_0 : decode cX10_withdraw 0 = .ok (.aload_n 0, 1) := by decide +kernel
theorem dX10_withdraw_1 : decode cX10_withdraw 1 = .ok (.iload_n 1, 1) := by decide +kernel
theorem dX10_withdraw_2 : decode cX10_withdraw 2 = .ok (.invokevirtual 122, 3) := by decide +kernel
theorem dX10_deal_0 : decode cX10_deal 0 = .ok (.aload_n 0, 1) := by decide +kernel
theorem dX10_deal_1 : decode cX10_deal 1 = .ok (.invokevirtual 112, 3) := by decide +kernel
theorem dX10_deal_4 : decode cX10_deal 4 = .ok (.aload_n 0, 1) := by decide +kernel
theorem dX10_deal_5 : decode cX10_deal 5 = .ok (.getfield 36, 3) := by decide +kernel
theorem dX10_deal_8 : decode cX10_deal 8 = .ok (.aload_n 0, 1) := by decide +kernel
theorem dX10_deal_9 : decode cX10_deal 9 = .ok (.getfield 26, 3) := by decide +kernel
theorem dX10_deal_12 : decode cX10_deal 12 = .ok (.invokevirtual 97, 3) := by decide +kernel
theorem dX10_deal_15 : decode cX10_deal 15 = .ok (.ireturn, 1) := by decide +kernel
theorem dX10_earn_0 : decode cX10_earn 0 = .ok (.aload_n 0, 1) := by decide +kernel
theorem dX10_earn_1 : decode cX10_earn 1 = .ok (.getfield 26, 3) := by decide +kernel
theorem dX10_earn_4 : decode cX10_earn 4 = .ok (.iload_n 1, 1) := by decide +kernel
theorem dX10_earn_5 : decode cX10_earn 5 = .ok (.invokestatic 138, 3) := by decide +kernel
theorem dX10_earn_8 : decode cX10_earn 8 = .ok (.invokestatic 109, 3) := by decide +kernel
theorem dX10_earn_11 : decode cX10_earn 11 = .ok (.aload_n 0, 1) := by decide +kernel
theorem dX10_earn_12 : decode cX10_earn 12 = .ok (.invokevirtual 112, 3) := by decide +kernel
theorem dX10_earn_15 : decode cX10_earn 15 = .ok (.aload_n 0, 1) := by decide +kernel
theorem dX10_earn_16 : decode cX10_earn 16 = .ok (.getfield 26, 3) := by decide +kernel
theorem dX10_earn_19 : decode cX10_earn 19 = .ok (.iload_n 1, 1) := by decide +kernel
theorem dX10_earn_20 : decode cX10_earn 20 = .ok (.invokestatic 144, 3) := by decide +kernel
theorem dX10_earn_23 : decode cX10_earn 23 = .ok (.lreturn, 1) := by decide +kernel
theorem dX10_passDays_0 : decode cX10_passDays 0 = .ok (.iload_n 1, 1) := by decide +kernel
theorem dX10_passDays_1 : decode cX10_passDays 1 = .ok (.invokestatic 148, 3) := by decide +kernel
theorem dX10_passDays_4 : decode cX10_passDays 4 = .ok (.invokestatic 109, 3) := by decide +kernel
theorem dX10_passDays_7 : decode cX10_passDays 7 = .ok (.aload_n 0, 1) := by decide +kernel
theorem dX10_passDays_8 : decode cX10_passDays 8 = .ok (.invokevirtual 112, 3) := by decide +kernel
theorem dX10_passDays_11 : decode cX10_passDays 11 = .ok (.aload_n 0, 1) := by decide +kernel
theorem dX10_passDays_12 : decode cX10_passDays 12 = .ok (.getfield 26, 3) := by decide +kernel
theorem dX10_passDays_15 : decode cX10_passDays 15 = .ok (.iload_n 1, 1) := by decide +kernel
theorem dX10_passDays_16 : decode cX10_passDays 16 = .ok (.invokestatic 152, 3) := by decide +kernel
theorem dX10_passDays_19 : decode cX10_passDays 19 = .ok (.lreturn, 1) := by decide +kernel
theorem dX10_crystallize_0 : decode cX10_crystallize 0 = .ok (.aload_n 0, 1) := by decide +kernel
theorem dX10_crystallize_1 : decode cX10_crystallize 1 = .ok (.invokevirtual 112, 3) := by decide +kernel
theorem dX10_crystallize_4 : decode cX10_crystallize 4 = .ok (.aload_n 0, 1) := by decide +kernel
theorem dX10_crystallize_5 : decode cX10_crystallize 5 = .ok (.getfield 26, 3) := by decide +kernel
theorem dX10_crystallize_8 : decode cX10_crystallize 8 = .ok (.invokestatic 155, 3) := by decide +kernel
theorem dX10_crystallize_11 : decode cX10_crystallize 11 = .ok (.lreturn, 1) := by decide +kernel
theorem dX10_merge_0 : decode cX10_merge 0 = .ok (.aload_n 0, 1) := by decide +kernel
theorem dX10_merge_1 : decode cX10_merge 1 = .ok (.invokevirtual 112, 3) := by decide +kernel
theorem dX10_merge_4 : decode cX10_merge 4 = .ok (.aload_n 0, 1) := by decide +kernel
theorem dX10_merge_5 : decode cX10_merge 5 = .ok (.getfield 26, 3) := by decide +kernel
theorem dX10_merge_8 : decode cX10_merge 8 = .ok (.invokestatic 159, 3) := by decide +kernel
theorem dX10_merge_11 : decode cX10_merge 11 = .ok (.ireturn, 1) := by decide +kernel
theorem dX10_transfer_0 : decode cX10_transfer 0 = .ok (.aload_n 0, 1) := by decide +kernel
theorem dX10_transfer_1 : decode cX10_transfer 1 = .ok (.getfield 26, 3) := by decide +kernel
theorem dX10_transfer_4 : decode cX10_transfer 4 = .ok (.iload_n 1, 1) := by decide +kernel
theorem dX10_transfer_5 : decode cX10_transfer 5 = .ok (.iload_n 2, 1) := by decide +kernel
theorem dX10_transfer_6 : decode cX10_transfer 6 = .ok (.iload_n 3, 1) := by decide +kernel
theorem dX10_transfer_7 : decode cX10_transfer 7 = .ok (.invokevirtual 162, 3) := by decide +kernel
theorem dX10_transfer_10 : decode cX10_transfer 10 = .ok (.invokestatic 109, 3) := by decide +kernel
theorem dX10_transfer_13 : decode cX10_transfer 13 = .ok (.aload_n 0, 1) := by decide +kernel
theorem dX10_transfer_14 : decode cX10_transfer 14 = .ok (.invokevirtual 112, 3) := by decide +kernel
theorem dX10_transfer_17 : decode cX10_transfer 17 = .ok (.aload_n 0, 1) := by decide +kernel
theorem dX10_transfer_18 : decode cX10_transfer 18 = .ok (.getfield 26, 3) := by decide +kernel
theorem dX10_transfer_21 : decode cX10_transfer 21 = .ok (.iload_n 1, 1) := by decide +kernel
theorem dX10_transfer_22 : decode cX10_transfer 22 = .ok (.iload_n 2, 1) := by decide +kernel
theorem dX10_transfer_23 : decode cX10_transfer 23 = .ok (.iload_n 3, 1) := by decide +kernel
theorem dX10_transfer_24 : decode cX10_transfer 24 = .ok (.i2l, 1) := by decide +kernel
theorem dX10_transfer_25 : decode cX10_transfer 25 = .ok (.invokevirtual 166, 3) := by decide +kernel
theorem dX10_transfer_28 : decode cX10_transfer 28 = .ok (.aload_n 0, 1) := by decide +kernel
theorem dX10_transfer_29 : decode cX10_transfer 29 = .ok (.getfield 26, 3) := by decide +kernel
theorem dX10_transfer_32 : decode cX10_transfer 32 = .ok (.iload_n 1, 1) := by decide +kernel
theorem dX10_transfer_33 : decode cX10_transfer 33 = .ok (.invokevirtual 170, 3) := by decide +kernel
theorem dX10_transfer_36 : decode cX10_transfer 36 = .ok (.lreturn, 1) := by decide +kernel
theorem dX10_setGate_0 : decode cX10_setGate 0 = .ok (.iload_n 1, 1) := by decide +kernel
theorem dX10_setGate_1 : decode cX10_setGate 1 = .ok (.iconst 1, 1) := by decide +kernel
theorem dX10_setGate_2 : decode cX10_setGate 2 = .ok (.if_icmp .lt 9, 3) := by decide +kernel
theorem dX10_setGate_5 : decode cX10_setGate 5 = .ok (.iload_n 1, 1) := by decide +kernel
theorem dX10_setGate_6 : decode cX10_setGate 6 = .ok (.bipush 100, 2) := by decide +kernel
theorem dX10_setGate_8 : decode cX10_setGate 8 = .ok (.if_icmp .le 13, 3) := by decide +kernel
theorem dX10_setGate_11 : decode cX10_setGate 11 = .ok (.new 71, 3) := by decide +kernel
theorem dX10_setGate_14 : decode cX10_setGate 14 = .ok (.dup, 1) := by decide +kernel
theorem dX10_setGate_15 : decode cX10_setGate 15 = .ok (.ldc 174, 2) := by decide +kernel
theorem dX10_setGate_17 : decode cX10_setGate 17 = .ok (.invokespecial 75, 3) := by decide +kernel
theorem dX10_setGate_20 : decode cX10_setGate 20 = .ok (.athrow, 1) := by decide +kernel
theorem dX10_setGate_21 : decode cX10_setGate 21 = .ok (.aload_n 0, 1) := by decide +kernel
theorem dX10_setGate_22 : decode cX10_setGate 22 = .ok (.invokevirtual 112, 3) := by decide +kernel
theorem dX10_setGate_25 : decode cX10_setGate 25 = .ok (.aload_n 0, 1) := by decide +kernel
theorem dX10_setGate_26 : decode cX10_setGate 26 = .ok (.getfield 26, 3) := by decide +kernel
theorem dX10_setGate_29 : decode cX10_setGate 29 = .ok (.getfield 176, 3) := by decide +kernel
theorem dX10_setGate_32 : decode cX10_setGate 32 = .ok (.istore_n 2, 1) := by decide +kernel
theorem dX10_setGate_33 : decode cX10_setGate 33 = .ok (.aload_n 0, 1) := by decide +kernel
theorem dX10_setGate_34 : decode cX10_setGate 34 = .ok (.getfield 26, 3) := by decide +kernel
theorem dX10_setGate_37 : decode cX10_setGate 37 = .ok (.iload_n 1, 1) := by decide +kernel
theorem dX10_setGate_38 : decode cX10_setGate 38 = .ok (.putfield 176, 3) := by decide +kernel
theorem dX10_setGate_41 : decode cX10_setGate 41 = .ok (.iload_n 2, 1) := by decide +kernel
theorem dX10_setGate_42 : decode cX10_setGate 42 = .ok (.ireturn, 1) := by decide +kernel
theorem dX10_runScript_0 : decode cX10_runScript 0 = .ok (.aload_n 0, 1) := by decide +kernel
theorem dX10_runScript_1 : decode cX10_runScript 1 = .ok (.getfield 10, 3) := by decide +kernel
theorem dX10_runScript_4 : decode cX10_runScript 4 = .ok (.invokevirtual 76, 3) := by decide +kernel
theorem dX10_runScript_7 : decode cX10_runScript 7 = .ok (.aload_n 0, 1) := by decide +kernel
theorem dX10_runScript_8 : decode cX10_runScript 8 = .ok (.getfield 30, 3) := by decide +kernel
theorem dX10_runScript_11 : decode cX10_runScript 11 = .ok (.aload_n 0, 1) := by decide +kernel
theorem dX10_runScript_12 : decode cX10_runScript 12 = .ok (.getfield 26, 3) := by decide +kernel
theorem dX10_runScript_15 : decode cX10_runScript 15 = .ok (.invokevirtual 101, 3) := by decide +kernel
theorem dX10_runScript_18 : decode cX10_runScript 18 = .ok (.new 179, 3) := by decide +kernel
theorem dX10_runScript_21 : decode cX10_runScript 21 = .ok (.dup, 1) := by decide +kernel
theorem dX10_runScript_22 : decode cX10_runScript 22 = .ok (.aload_n 0, 1) := by decide +kernel
theorem dX10_runScript_23 : decode cX10_runScript 23 = .ok (.getfield 10, 3) := by decide +kernel
theorem dX10_runScript_26 : decode cX10_runScript 26 = .ok (.aload_n 0, 1) := by decide +kernel
theorem dX10_runScript_27 : decode cX10_runScript 27 = .ok (.getfield 30, 3) := by decide +kernel
theorem dX10_runScript_30 : decode cX10_runScript 30 = .ok (.aload_n 0, 1) := by decide +kernel
theorem dX10_runScript_31 : decode cX10_runScript 31 = .ok (.getfield 36, 3) := by decide +kernel
theorem dX10_runScript_34 : decode cX10_runScript 34 = .ok (.invokespecial 181, 3) := by decide +kernel
theorem dX10_runScript_37 : decode cX10_runScript 37 = .ok (.astore_n 1, 1) := by decide +kernel
theorem dX10_runScript_38 : decode cX10_runScript 38 = .ok (.iconst 0, 1) := by decide +kernel
theorem dX10_runScript_39 : decode cX10_runScript 39 = .ok (.istore_n 2, 1) := by decide +kernel
theorem dX10_runScript_40 : decode cX10_runScript 40 = .ok (.aload_n 0, 1) := by decide +kernel
theorem dX10_runScript_41 : decode cX10_runScript 41 = .ok (.getfield 10, 3) := by decide +kernel
theorem dX10_runScript_44 : decode cX10_runScript 44 = .ok (.invokevirtual 184, 3) := by decide +kernel
theorem dX10_runScript_47 : decode cX10_runScript 47 = .ok (.aload_n 0, 1) := by decide +kernel
theorem dX10_runScript_48 : decode cX10_runScript 48 = .ok (.getfield 10, 3) := by decide +kernel
theorem dX10_runScript_51 : decode cX10_runScript 51 = .ok (.getfield 187, 3) := by decide +kernel
theorem dX10_runScript_54 : decode cX10_runScript 54 = .ok (.ifCond .eq 59, 3) := by decide +kernel
theorem dX10_runScript_113 : decode cX10_runScript 113 = .ok (.aload_n 0, 1) := by decide +kernel
theorem dX10_runScript_114 : decode cX10_runScript 114 = .ok (.invokevirtual 112, 3) := by decide +kernel
theorem dX10_runScript_117 : decode cX10_runScript 117 = .ok (.aload_n 0, 1) := by decide +kernel
theorem dX10_runScript_118 : decode cX10_runScript 118 = .ok (.getfield 26, 3) := by decide +kernel
theorem dX10_runScript_121 : decode cX10_runScript 121 = .ok (.aload_n 0, 1) := by decide +kernel
theorem dX10_runScript_122 : decode cX10_runScript 122 = .ok (.getfield 30, 3) := by decide +kernel
theorem dX10_runScript_125 : decode cX10_runScript 125 = .ok (.invokevirtual 101, 3) := by decide +kernel
theorem dX10_runScript_128 : decode cX10_runScript 128 = .ok (.iload_n 2, 1) := by decide +kernel
theorem dX10_runScript_129 : decode cX10_runScript 129 = .ok (.ireturn, 1) := by decide +kernel
theorem dX10_remember_0 : decode cX10_remember 0 = .ok (.aload_n 0, 1) := by decide +kernel
theorem dX10_remember_1 : decode cX10_remember 1 = .ok (.aload_n 0, 1) := by decide +kernel
theorem dX10_remember_2 : decode cX10_remember 2 = .ok (.getfield 44, 3) := by decide +kernel
theorem dX10_remember_5 : decode cX10_remember 5 = .ok (.iconst 1, 1) := by decide +kernel
theorem dX10_remember_6 : decode cX10_remember 6 = .ok (.iadd, 1) := by decide +kernel
theorem dX10_remember_7 : decode cX10_remember 7 = .ok (.bipush 10, 2) := by decide +kernel
theorem dX10_remember_9 : decode cX10_remember 9 = .ok (.if_icmp .ge 12, 3) := by decide +kernel
theorem dX10_remember_12 : decode cX10_remember 12 = .ok (.aload_n 0, 1) := by decide +kernel
theorem dX10_remember_13 : decode cX10_remember 13 = .ok (.getfield 44, 3) := by decide +kernel
theorem dX10_remember_16 : decode cX10_remember 16 = .ok (.iconst 1, 1) := by decide +kernel
theorem dX10_remember_17 : decode cX10_remember 17 = .ok (.iadd, 1) := by decide +kernel
theorem dX10_remember_18 : decode cX10_remember 18 = .ok (.goto 4, 3) := by decide +kernel
theorem dX10_remember_22 : decode cX10_remember 22 = .ok (.putfield 44, 3) := by decide +kernel
theorem dX10_remember_25 : decode cX10_remember 25 = .ok (.aload_n 0, 1) := by decide +kernel
theorem dX10_remember_26 : decode cX10_remember 26 = .ok (.getfield 40, 3) := by decide +kernel
theorem dX10_remember_29 : decode cX10_remember 29 = .ok (.aload_n 0, 1) := by decide +kernel
theorem dX10_remember_30 : decode cX10_remember 30 = .ok (.getfield 44, 3) := by decide +kernel
theorem dX10_remember_33 : decode cX10_remember 33 = .ok (.aaload, 1) := by decide +kernel
theorem dX10_remember_34 : decode cX10_remember 34 = .ok (.ifnonnull 19, 3) := by decide +kernel
theorem dX10_remember_37 : decode cX10_remember 37 = .ok (.aload_n 0, 1) := by decide +kernel
theorem dX10_remember_38 : decode cX10_remember 38 = .ok (.getfield 40, 3) := by decide +kernel
theorem dX10_remember_41 : decode cX10_remember 41 = .ok (.aload_n 0, 1) := by decide +kernel
theorem dX10_remember_42 : decode cX10_remember 42 = .ok (.getfield 44, 3) := by decide +kernel
theorem dX10_remember_45 : decode cX10_remember 45 = .ok (.new 23, 3) := by decide +kernel
theorem dX10_remember_48 : decode cX10_remember 48 = .ok (.dup, 1) := by decide +kernel
theorem dX10_remember_49 : decode cX10_remember 49 = .ok (.invokespecial 25, 3) := by decide +kernel
theorem dX10_remember_52 : decode cX10_remember 52 = .ok (.aastore, 1) := by decide +kernel
theorem dX10_remember_53 : decode cX10_remember 53 = .ok (.aload_n 0, 1) := by decide +kernel
theorem dX10_remember_54 : decode cX10_remember 54 = .ok (.getfield 40, 3) := by decide +kernel
theorem dX10_remember_57 : decode cX10_remember 57 = .ok (.aload_n 0, 1) := by decide +kernel
theorem dX10_remember_58 : decode cX10_remember 58 = .ok (.getfield 44, 3) := by decide +kernel
theorem dX10_remember_61 : decode cX10_remember 61 = .ok (.aaload, 1) := by decide +kernel
theorem dX10_remember_62 : decode cX10_remember 62 = .ok (.aload_n 0, 1) := by decide +kernel
theorem dX10_remember_63 : decode cX10_remember 63 = .ok (.getfield 26, 3) := by decide +kernel
theorem dX10_remember_66 : decode cX10_remember 66 = .ok (.invokevirtual 101, 3) := by decide +kernel
theorem dX10_remember_69 : decode cX10_remember 69 = .ok (.aload_n 0, 1) := by decide +kernel
theorem dX10_remember_70 : decode cX10_remember 70 = .ok (.getfield 47, 3) := by decide +kernel
theorem dX10_remember_73 : decode cX10_remember 73 = .ok (.bipush 10, 2) := by decide +kernel
theorem dX10_remember_75 : decode cX10_remember 75 = .ok (.if_icmp .ge 13, 3) := by decide +kernel
theorem dX10_remember_78 : decode cX10_remember 78 = .ok (.aload_n 0, 1) := by decide +kernel
theorem dX10_remember_79 : decode cX10_remember 79 = .ok (.dup, 1) := by decide +kernel
theorem dX10_remember_80 : decode cX10_remember 80 = .ok (.getfield 47, 3) := by decide +kernel
theorem dX10_remember_83 : decode cX10_remember 83 = .ok (.iconst 1, 1) := by decide +kernel
theorem dX10_remember_84 : decode cX10_remember 84 = .ok (.iadd, 1) := by decide +kernel
theorem dX10_remember_85 : decode cX10_remember 85 = .ok (.putfield 47, 3) := by decide +kernel
theorem dX10_remember_88 : decode cX10_remember 88 = .ok (.return_, 1) := by decide +kernel
theorem dX10_refuse_0 : decode cX10_refuse 0 = .ok (.iload_n 0, 1) := by decide +kernel
theorem dX10_refuse_1 : decode cX10_refuse 1 = .ok (.iconst 1, 1) := by decide +kernel
theorem dX10_refuse_2 : decode cX10_refuse 2 = .ok (.if_icmp .ne 13, 3) := by decide +kernel
theorem dX10_refuse_5 : decode cX10_refuse 5 = .ok (.new 196, 3) := by decide +kernel
theorem dX10_refuse_8 : decode cX10_refuse 8 = .ok (.dup, 1) := by decide +kernel
theorem dX10_refuse_9 : decode cX10_refuse 9 = .ok (.ldc 198, 2) := by decide +kernel
theorem dX10_refuse_11 : decode cX10_refuse 11 = .ok (.invokespecial 200, 3) := by decide +kernel
theorem dX10_refuse_14 : decode cX10_refuse 14 = .ok (.athrow, 1) := by decide +kernel
theorem dX10_refuse_15 : decode cX10_refuse 15 = .ok (.iload_n 0, 1) := by decide +kernel
theorem dX10_refuse_16 : decode cX10_refuse 16 = .ok (.iconst 2, 1) := by decide +kernel
theorem dX10_refuse_17 : decode cX10_refuse 17 = .ok (.if_icmp .ne 13, 3) := by decide +kernel
theorem dX10_refuse_20 : decode cX10_refuse 20 = .ok (.new 71, 3) := by decide +kernel
theorem dX10_refuse_23 : decode cX10_refuse 23 = .ok (.dup, 1) := by decide +kernel
theorem dX10_refuse_24 : decode cX10_refuse 24 = .ok (.ldc 201, 2) := by decide +kernel
theorem dX10_refuse_26 : decode cX10_refuse 26 = .ok (.invokespecial 75, 3) := by decide +kernel
theorem dX10_refuse_29 : decode cX10_refuse 29 = .ok (.athrow, 1) := by decide +kernel
theorem dX10_refuse_30 : decode cX10_refuse 30 = .ok (.iload_n 0, 1) := by decide +kernel
theorem dX10_refuse_31 : decode cX10_refuse 31 = .ok (.iconst 3, 1) := by decide +kernel
theorem dX10_refuse_32 : decode cX10_refuse 32 = .ok (.if_icmp .ne 13, 3) := by decide +kernel
theorem dX10_refuse_35 : decode cX10_refuse 35 = .ok (.new 60, 3) := by decide +kernel
theorem dX10_refuse_38 : decode cX10_refuse 38 = .ok (.dup, 1) := by decide +kernel
theorem dX10_refuse_39 : decode cX10_refuse 39 = .ok (.ldc 203, 2) := by decide +kernel
theorem dX10_refuse_41 : decode cX10_refuse 41 = .ok (.invokespecial 64, 3) := by decide +kernel
theorem dX10_refuse_44 : decode cX10_refuse 44 = .ok (.athrow, 1) := by decide +kernel
theorem dX10_refuse_45 : decode cX10_refuse 45 = .ok (.return_, 1) := by decide +kernel
theorem dX10_checkInvestor_0 : decode cX10_checkInvestor 0 = .ok (.aload_n 0, 1) := by decide +kernel
theorem dX10_checkInvestor_1 : decode cX10_checkInvestor 1 = .ok (.getfield 26, 3) := by decide +kernel
theorem dX10_checkInvestor_4 : decode cX10_checkInvestor 4 = .ok (.iload_n 1, 1) := by decide +kernel
theorem dX10_checkInvestor_5 : decode cX10_checkInvestor 5 = .ok (.invokevirtual 205, 3) := by decide +kernel
theorem dX10_checkInvestor_8 : decode cX10_checkInvestor 8 = .ok (.ifCond .eq 7, 3) := by decide +kernel
theorem dX10_checkInvestor_11 : decode cX10_checkInvestor 11 = .ok (.iconst 0, 1) := by decide +kernel
theorem dX10_checkInvestor_12 : decode cX10_checkInvestor 12 = .ok (.goto 4, 3) := by decide +kernel
theorem dX10_checkInvestor_15 : decode cX10_checkInvestor 15 = .ok (.iconst 1, 1) := by decide +kernel
theorem dX10_checkInvestor_16 : decode cX10_checkInvestor 16 = .ok (.invokestatic 109, 3) := by decide +kernel
theorem dX10_checkInvestor_19 : decode cX10_checkInvestor 19 = .ok (.return_, 1) := by decide +kernel
theorem dX10_checkRequest_0 : decode cX10_checkRequest 0 = .ok (.iload_n 1, 1) := by decide +kernel
theorem dX10_checkRequest_1 : decode cX10_checkRequest 1 = .ok (.ifCond .lt 18, 3) := by decide +kernel
theorem dX10_checkRequest_4 : decode cX10_checkRequest 4 = .ok (.iload_n 1, 1) := by decide +kernel
theorem dX10_checkRequest_5 : decode cX10_checkRequest 5 = .ok (.aload_n 0, 1) := by decide +kernel
theorem dX10_checkRequest_6 : decode cX10_checkRequest 6 = .ok (.getfield 26, 3) := by decide +kernel
theorem dX10_checkRequest_9 : decode cX10_checkRequest 9 = .ok (.getfield 94, 3) := by decide +kernel
theorem dX10_checkRequest_12 : decode cX10_checkRequest 12 = .ok (.if_icmp .ge 7, 3) := by decide +kernel
theorem dX10_checkRequest_19 : decode cX10_checkRequest 19 = .ok (.iconst 1, 1) := by decide +kernel
theorem dX10_checkRequest_20 : decode cX10_checkRequest 20 = .ok (.invokestatic 109, 3) := by decide +kernel
theorem dX10_placeOf_0 : decode cX10_placeOf 0 = .ok (.aload_n 0, 1) := by decide +kernel
theorem dX10_placeOf_1 : decode cX10_placeOf 1 = .ok (.getfield 26, 3) := by decide +kernel
theorem dX10_placeOf_4 : decode cX10_placeOf 4 = .ok (.iload_n 1, 1) := by decide +kernel
theorem dX10_placeOf_5 : decode cX10_placeOf 5 = .ok (.invokevirtual 209, 3) := by decide +kernel
theorem dX10_placeOf_8 : decode cX10_placeOf 8 = .ok (.istore_n 2, 1) := by decide +kernel
theorem dX10_placeOf_9 : decode cX10_placeOf 9 = .ok (.iload_n 2, 1) := by decide +kernel
theorem dX10_placeOf_10 : decode cX10_placeOf 10 = .ok (.iconst (-1), 1) := by decide +kernel
theorem dX10_placeOf_11 : decode cX10_placeOf 11 = .ok (.if_icmp .ne 7, 3) := by decide +kernel
theorem dX10_placeOf_14 : decode cX10_placeOf 14 = .ok (.iconst 1, 1) := by decide +kernel
theorem dX10_placeOf_15 : decode cX10_placeOf 15 = .ok (.goto 4, 3) := by decide +kernel
theorem dX10_placeOf_19 : decode cX10_placeOf 19 = .ok (.invokestatic 109, 3) := by decide +kernel
theorem dX10_count_0 : decode cX10_count 0 = .ok (.iload_n 1, 1) := by decide +kernel
theorem dX10_count_1 : decode cX10_count 1 = .ok (.tableswitch 135 0 9 #[55, 63, 71, 79, 87, 95, 103, 111, 119, 127], 55) := by decide +kernel
theorem dX10_count_56 : decode cX10_count 56 = .ok (.aload_n 0, 1) := by decide +kernel
theorem dX10_count_57 : decode cX10_count 57 = .ok (.getfield 26, 3) := by decide +kernel
theorem dX10_count_60 : decode cX10_count 60 = .ok (.getfield 212, 3) := by decide +kernel
theorem dX10_count_63 : decode cX10_count 63 = .ok (.ireturn, 1) := by decide +kernel
theorem dX10_count_64 : decode cX10_count 64 = .ok (.aload_n 0, 1) := by decide +kernel
theorem dX10_count_65 : decode cX10_count 65 = .ok (.getfield 26, 3) := by decide +kernel
theorem dX10_count_68 : decode cX10_count 68 = .ok (.getfield 215, 3) := by decide +kernel
theorem dX10_count_71 : decode cX10_count 71 = .ok (.ireturn, 1) := by decide +kernel
theorem dX10_count_72 : decode cX10_count 72 = .ok (.aload_n 0, 1) := by decide +kernel
theorem dX10_count_73 : decode cX10_count 73 = .ok (.getfield 26, 3) := by decide +kernel
theorem dX10_count_76 : decode cX10_count 76 = .ok (.getfield 218, 3) := by decide +kernel
theorem dX10_count_79 : decode cX10_count 79 = .ok (.ireturn, 1) := by decide +kernel
theorem dX10_count_80 : decode cX10_count 80 = .ok (.aload_n 0, 1) := by decide +kernel
theorem dX10_count_81 : decode cX10_count 81 = .ok (.getfield 26, 3) := by decide +kernel
theorem dX10_count_84 : decode cX10_count 84 = .ok (.getfield 221, 3) := by decide +kernel
theorem dX10_count_87 : decode cX10_count 87 = .ok (.ireturn, 1) := by decide +kernel
theorem dX10_count_88 : decode cX10_count 88 = .ok (.aload_n 0, 1) := by decide +kernel
theorem dX10_count_89 : decode cX10_count 89 = .ok (.getfield 26, 3) := by decide +kernel
theorem dX10_count_92 : decode cX10_count 92 = .ok (.getfield 176, 3) := by decide +kernel
theorem dX10_count_95 : decode cX10_count 95 = .ok (.ireturn, 1) := by decide +kernel
theorem dX10_count_96 : decode cX10_count 96 = .ok (.aload_n 0, 1) := by decide +kernel
theorem dX10_count_97 : decode cX10_count 97 = .ok (.getfield 26, 3) := by decide +kernel
theorem dX10_count_100 : decode cX10_count 100 = .ok (.getfield 224, 3) := by decide +kernel
theorem dX10_count_103 : decode cX10_count 103 = .ok (.ireturn, 1) := by decide +kernel
theorem dX10_count_104 : decode cX10_count 104 = .ok (.aload_n 0, 1) := by decide +kernel
theorem dX10_count_105 : decode cX10_count 105 = .ok (.getfield 26, 3) := by decide +kernel
theorem dX10_count_108 : decode cX10_count 108 = .ok (.getfield 227, 3) := by decide +kernel
theorem dX10_count_111 : decode cX10_count 111 = .ok (.ireturn, 1) := by decide +kernel
theorem dX10_count_112 : decode cX10_count 112 = .ok (.aload_n 0, 1) := by decide +kernel
theorem dX10_count_113 : decode cX10_count 113 = .ok (.getfield 26, 3) := by decide +kernel
theorem dX10_count_116 : decode cX10_count 116 = .ok (.getfield 230, 3) := by decide +kernel
theorem dX10_count_119 : decode cX10_count 119 = .ok (.ireturn, 1) := by decide +kernel
theorem dX10_count_120 : decode cX10_count 120 = .ok (.aload_n 0, 1) := by decide +kernel
theorem dX10_count_121 : decode cX10_count 121 = .ok (.getfield 26, 3) := by decide +kernel
theorem dX10_count_124 : decode cX10_count 124 = .ok (.getfield 94, 3) := by decide +kernel
theorem dX10_count_127 : decode cX10_count 127 = .ok (.ireturn, 1) := by decide +kernel
theorem dX10_count_128 : decode cX10_count 128 = .ok (.aload_n 0, 1) := by decide +kernel
theorem dX10_count_129 : decode cX10_count 129 = .ok (.getfield 26, 3) := by decide +kernel
theorem dX10_count_132 : decode cX10_count 132 = .ok (.getfield 233, 3) := by decide +kernel
theorem dX10_count_135 : decode cX10_count 135 = .ok (.ireturn, 1) := by decide +kernel
theorem dX10_count_136 : decode cX10_count 136 = .ok (.new 71, 3) := by decide +kernel
theorem dX10_count_139 : decode cX10_count 139 = .ok (.dup, 1) := by decide +kernel
theorem dX10_count_140 : decode cX10_count 140 = .ok (.ldc 236, 2) := by decide +kernel
theorem dX10_count_142 : decode cX10_count 142 = .ok (.invokespecial 75, 3) := by decide +kernel
theorem dX10_count_145 : decode cX10_count 145 = .ok (.athrow, 1) := by decide +kernel
theorem dX10_netAssets_0 : decode cX10_netAssets 0 = .ok (.aload_n 0, 1) := by decide +kernel
theorem dX10_netAssets_1 : decode cX10_netAssets 1 = .ok (.getfield 26, 3) := by decide +kernel
theorem dX10_netAssets_4 : decode cX10_netAssets 4 = .ok (.invokevirtual 238, 3) := by decide +kernel
theorem dX10_netAssets_7 : decode cX10_netAssets 7 = .ok (.lreturn, 1) := by decide +kernel
theorem dX10_account_0 : decode cX10_account 0 = .ok (.iload_n 1, 1) := by decide +kernel
theorem dX10_account_1 : decode cX10_account 1 = .ok (.ifCond .lt 9, 3) := by decide +kernel
theorem dX10_account_4 : decode cX10_account 4 = .ok (.iload_n 1, 1) := by decide +kernel
theorem dX10_account_5 : decode cX10_account 5 = .ok (.bipush 6, 2) := by decide +kernel
theorem dX10_account_7 : decode cX10_account 7 = .ok (.if_icmp .lt 13, 3) := by decide +kernel
theorem dX10_account_10 : decode cX10_account 10 = .ok (.new 71, 3) := by decide +kernel
theorem dX10_account_13 : decode cX10_account 13 = .ok (.dup, 1) := by decide +kernel
theorem dX10_account_14 : decode cX10_account 14 = .ok (.ldc 242, 2) := by decide +kernel
theorem dX10_account_16 : decode cX10_account 16 = .ok (.invokespecial 75, 3) := by decide +kernel
theorem dX10_account_19 : decode cX10_account 19 = .ok (.athrow, 1) := by decide +kernel
theorem dX10_account_20 : decode cX10_account 20 = .ok (.aload_n 0, 1) := by decide +kernel
theorem dX10_account_21 : decode cX10_account 21 = .ok (.getfield 26, 3) := by decide +kernel
theorem dX10_account_24 : decode cX10_account 24 = .ok (.getfield 244, 3) := by decide +kernel
theorem dX10_account_27 : decode cX10_account 27 = .ok (.iload_n 1, 1) := by decide +kernel
theorem dX10_account_28 : decode cX10_account 28 = .ok (.laload, 1) := by decide +kernel
theorem dX10_account_29 : decode cX10_account 29 = .ok (.lreturn, 1) := by decide +kernel
theorem dX10_openSeries_0 : decode cX10_openSeries 0 = .ok (.iload_n 1, 1) := by decide +kernel
theorem dX10_openSeries_1 : decode cX10_openSeries 1 = .ok (.ifCond .lt 14, 3) := by decide +kernel
theorem dX10_openSeries_4 : decode cX10_openSeries 4 = .ok (.iload_n 1, 1) := by decide +kernel
theorem dX10_openSeries_5 : decode cX10_openSeries 5 = .ok (.aload_n 0, 1) := by decide +kernel
theorem dX10_openSeries_6 : decode cX10_openSeries 6 = .ok (.getfield 26, 3) := by decide +kernel
theorem dX10_openSeries_9 : decode cX10_openSeries 9 = .ok (.getfield 227, 3) := by decide +kernel
theorem dX10_openSeries_12 : decode cX10_openSeries 12 = .ok (.if_icmp .lt 13, 3) := by decide +kernel
theorem dX10_openSeries_15 : decode cX10_openSeries 15 = .ok (.new 196, 3) := by decide +kernel
theorem dX10_openSeries_18 : decode cX10_openSeries 18 = .ok (.dup, 1) := by decide +kernel
theorem dX10_openSeries_19 : decode cX10_openSeries 19 = .ok (.ldc 248, 2) := by decide +kernel
theorem dX10_openSeries_21 : decode cX10_openSeries 21 = .ok (.invokespecial 200, 3) := by decide +kernel
theorem dX10_openSeries_24 : decode cX10_openSeries 24 = .ok (.athrow, 1) := by decide +kernel
theorem dX10_seriesValue_0 : decode cX10_seriesValue 0 = .ok (.aload_n 0, 1) := by decide +kernel
theorem dX10_seriesValue_1 : decode cX10_seriesValue 1 = .ok (.getfield 26, 3) := by decide +kernel
theorem dX10_seriesValue_4 : decode cX10_seriesValue 4 = .ok (.getfield 250, 3) := by decide +kernel
theorem dX10_seriesValue_7 : decode cX10_seriesValue 7 = .ok (.aload_n 0, 1) := by decide +kernel
theorem dX10_seriesValue_8 : decode cX10_seriesValue 8 = .ok (.iload_n 1, 1) := by decide +kernel
theorem dX10_seriesValue_9 : decode cX10_seriesValue 9 = .ok (.invokevirtual 259, 3) := by decide +kernel
theorem dX10_lot_0 : decode cX10_lot 0 = .ok (.iload_n 1, 1) := by decide +kernel
theorem dX10_lot_1 : decode cX10_lot 1 = .ok (.ifCond .lt 14, 3) := by decide +kernel
theorem dX10_lot_4 : decode cX10_lot 4 = .ok (.iload_n 1, 1) := by decide +kernel
theorem dX10_lot_5 : decode cX10_lot 5 = .ok (.aload_n 0, 1) := by decide +kernel
theorem dX10_lot_6 : decode cX10_lot 6 = .ok (.getfield 26, 3) := by decide +kernel
theorem dX10_lot_9 : decode cX10_lot 9 = .ok (.getfield 230, 3) := by decide +kernel
theorem dX10_lot_12 : decode cX10_lot 12 = .ok (.if_icmp .lt 14, 3) := by decide +kernel
theorem dX10_lot_15 : decode cX10_lot 15 = .ok (.new 196, 3) := by decide +kernel
theorem dX10_lot_18 : decode cX10_lot 18 = .ok (.dup, 1) := by decide +kernel
theorem dX10_lot_19 : decode cX10_lot 19 = .ok (.ldc_w 288, 3) := by decide +kernel
theorem dX10_lot_22 : decode cX10_lot 22 = .ok (.invokespecial 200, 3) := by decide +kernel
theorem dX10_lot_25 : decode cX10_lot 25 = .ok (.athrow, 1) := by decide +kernel
theorem dX10_request_0 : decode cX10_request 0 = .ok (.aload_n 0, 1) := by decide +kernel
theorem dX10_request_1 : decode cX10_request 1 = .ok (.iload_n 1, 1) := by decide +kernel
theorem dX10_request_2 : decode cX10_request 2 = .ok (.invokevirtual 122, 3) := by decide +kernel
theorem dX10_unitsOf_0 : decode cX10_unitsOf 0 = .ok (.aload_n 0, 1) := by decide +kernel
theorem dX10_unitsOf_1 : decode cX10_unitsOf 1 = .ok (.iload_n 1, 1) := by decide +kernel
theorem dX10_unitsOf_2 : decode cX10_unitsOf 2 = .ok (.invokevirtual 315, 3) := by decide +kernel
theorem dX10_unitsOf_5 : decode cX10_unitsOf 5 = .ok (.aload_n 0, 1) := by decide +kernel
theorem dX10_unitsOf_6 : decode cX10_unitsOf 6 = .ok (.getfield 26, 3) := by decide +kernel
theorem dX10_unitsOf_9 : decode cX10_unitsOf 9 = .ok (.iload_n 1, 1) := by decide +kernel
theorem dX10_unitsOf_10 : decode cX10_unitsOf 10 = .ok (.invokevirtual 170, 3) := by decide +kernel
theorem dX10_unitsOf_13 : decode cX10_unitsOf 13 = .ok (.lreturn, 1) := by decide +kernel
theorem dX10_holding_0 : decode cX10_holding 0 = .ok (.aload_n 0, 1) := by decide +kernel
theorem dX10_holding_1 : decode cX10_holding 1 = .ok (.iload_n 1, 1) := by decide +kernel
theorem dX10_holding_2 : decode cX10_holding 2 = .ok (.invokevirtual 315, 3) := by decide +kernel
theorem dX10_holding_5 : decode cX10_holding 5 = .ok (.aload_n 0, 1) := by decide +kernel
theorem dX10_holding_6 : decode cX10_holding 6 = .ok (.iload_n 2, 1) := by decide +kernel
theorem dX10_holding_7 : decode cX10_holding 7 = .ok (.invokevirtual 259, 3) := by decide +kernel
theorem dX10_valueOf_0 : decode cX10_valueOf 0 = .ok (.aload_n 0, 1) := by decide +kernel
theorem dX10_valueOf_1 : decode cX10_valueOf 1 = .ok (.iload_n 1, 1) := by decide +kernel
theorem dX10_valueOf_2 : decode cX10_valueOf 2 = .ok (.invokevirtual 315, 3) := by decide +kernel
theorem dX10_valueOf_5 : decode cX10_valueOf 5 = .ok (.aload_n 0, 1) := by decide +kernel
theorem dX10_valueOf_6 : decode cX10_valueOf 6 = .ok (.getfield 36, 3) := by decide +kernel
theorem dX10_valueOf_9 : decode cX10_valueOf 9 = .ok (.aload_n 0, 1) := by decide +kernel
theorem dX10_valueOf_10 : decode cX10_valueOf 10 = .ok (.getfield 26, 3) := by decide +kernel
theorem dX10_valueOf_13 : decode cX10_valueOf 13 = .ok (.iload_n 1, 1) := by decide +kernel
theorem dX10_valueOf_14 : decode cX10_valueOf 14 = .ok (.iconst 0, 1) := by decide +kernel
theorem dX10_valueOf_15 : decode cX10_valueOf 15 = .ok (.invokevirtual 322, 3) := by decide +kernel
theorem dX10_valueOf_18 : decode cX10_valueOf 18 = .ok (.lreturn, 1) := by decide +kernel
theorem dX10_richest_0 : decode cX10_richest 0 = .ok (.aload_n 0, 1) := by decide +kernel
theorem dX10_richest_1 : decode cX10_richest 1 = .ok (.iload_n 1, 1) := by decide +kernel
theorem dX10_richest_2 : decode cX10_richest 2 = .ok (.invokevirtual 315, 3) := by decide +kernel
theorem dX10_richest_5 : decode cX10_richest 5 = .ok (.iconst 0, 1) := by decide +kernel
theorem dX10_richest_6 : decode cX10_richest 6 = .ok (.istore_n 2, 1) := by decide +kernel
theorem dX10_richest_7 : decode cX10_richest 7 = .ok (.iload_n 2, 1) := by decide +kernel
theorem dX10_richest_8 : decode cX10_richest 8 = .ok (.aload_n 0, 1) := by decide +kernel
theorem dX10_richest_9 : decode cX10_richest 9 = .ok (.getfield 26, 3) := by decide +kernel
theorem dX10_richest_12 : decode cX10_richest 12 = .ok (.getfield 212, 3) := by decide +kernel
theorem dX10_richest_15 : decode cX10_richest 15 = .ok (.if_icmp .ge 20, 3) := by decide +kernel
theorem dX10_richest_18 : decode cX10_richest 18 = .ok (.aload_n 0, 1) := by decide +kernel
theorem dX10_richest_19 : decode cX10_richest 19 = .ok (.iload_n 2, 1) := by decide +kernel
theorem dX10_richest_20 : decode cX10_richest 20 = .ok (.invokevirtual 326, 3) := by decide +kernel
theorem dX10_richest_23 : decode cX10_richest 23 = .ok (.iload_n 1, 1) := by decide +kernel
theorem dX10_richest_24 : decode cX10_richest 24 = .ok (.if_icmp .ne 5, 3) := by decide +kernel
theorem dX10_richest_27 : decode cX10_richest 27 = .ok (.iload_n 2, 1) := by decide +kernel
theorem dX10_richest_28 : decode cX10_richest 28 = .ok (.ireturn, 1) := by decide +kernel
theorem dX10_richest_29 : decode cX10_richest 29 = .ok (.iinc 2 1, 3) := by decide +kernel
theorem dX10_richest_32 : decode cX10_richest 32 = .ok (.goto (-25), 3) := by decide +kernel
theorem dX10_richest_35 : decode cX10_richest 35 = .ok (.iconst (-1), 1) := by decide +kernel
theorem dX10_richest_36 : decode cX10_richest 36 = .ok (.ireturn, 1) := by decide +kernel
theorem dX10_placeInRanking_0 : decode cX10_placeInRanking 0 = .ok (.aload_n 0, 1) := by decide +kernel
theorem dX10_placeInRanking_1 : decode cX10_placeInRanking 1 = .ok (.getfield 36, 3) := by decide +kernel
theorem dX10_placeInRanking_4 : decode cX10_placeInRanking 4 = .ok (.aload_n 0, 1) := by decide +kernel
theorem dX10_placeInRanking_5 : decode cX10_placeInRanking 5 = .ok (.getfield 26, 3) := by decide +kernel
theorem dX10_placeInRanking_8 : decode cX10_placeInRanking 8 = .ok (.iload_n 1, 1) := by decide +kernel
theorem dX10_placeInRanking_9 : decode cX10_placeInRanking 9 = .ok (.iconst 0, 1) := by decide +kernel
theorem dX10_placeInRanking_10 : decode cX10_placeInRanking 10 = .ok (.invokevirtual 322, 3) := by decide +kernel
theorem dX10_placeInRanking_13 : decode cX10_placeInRanking 13 = .ok (.lstore_n 2, 1) := by decide +kernel
theorem dX10_placeInRanking_14 : decode cX10_placeInRanking 14 = .ok (.iconst 0, 1) := by decide +kernel
theorem dX10_placeInRanking_15 : decode cX10_placeInRanking 15 = .ok (.istore 4, 2) := by decide +kernel
theorem dX10_placeInRanking_17 : decode cX10_placeInRanking 17 = .ok (.iconst 0, 1) := by decide +kernel
theorem dX10_placeInRanking_18 : decode cX10_placeInRanking 18 = .ok (.istore 5, 2) := by decide +kernel
theorem dX10_placeInRanking_20 : decode cX10_placeInRanking 20 = .ok (.iload 5, 2) := by decide +kernel
theorem dX10_placeInRanking_22 : decode cX10_placeInRanking 22 = .ok (.aload_n 0, 1) := by decide +kernel
theorem dX10_placeInRanking_23 : decode cX10_placeInRanking 23 = .ok (.getfield 26, 3) := by decide +kernel
theorem dX10_placeInRanking_26 : decode cX10_placeInRanking 26 = .ok (.getfield 212, 3) := by decide +kernel
theorem dX10_placeInRanking_29 : decode cX10_placeInRanking 29 = .ok (.if_icmp .ge 48, 3) := by decide +kernel
theorem dX10_placeInRanking_32 : decode cX10_placeInRanking 32 = .ok (.aload_n 0, 1) := by decide +kernel
theorem dX10_placeInRanking_33 : decode cX10_placeInRanking 33 = .ok (.getfield 36, 3) := by decide +kernel
theorem dX10_placeInRanking_36 : decode cX10_placeInRanking 36 = .ok (.aload_n 0, 1) := by decide +kernel
theorem dX10_placeInRanking_37 : decode cX10_placeInRanking 37 = .ok (.getfield 26, 3) := by decide +kernel
theorem dX10_placeInRanking_40 : decode cX10_placeInRanking 40 = .ok (.iload 5, 2) := by decide +kernel
theorem dX10_placeInRanking_42 : decode cX10_placeInRanking 42 = .ok (.iconst 0, 1) := by decide +kernel
theorem dX10_placeInRanking_43 : decode cX10_placeInRanking 43 = .ok (.invokevirtual 322, 3) := by decide +kernel
theorem dX10_placeInRanking_46 : decode cX10_placeInRanking 46 = .ok (.lstore 6, 2) := by decide +kernel
theorem dX10_placeInRanking_48 : decode cX10_placeInRanking 48 = .ok (.lload 6, 2) := by decide +kernel
theorem dX10_placeInRanking_50 : decode cX10_placeInRanking 50 = .ok (.lload_n 2, 1) := by decide +kernel
theorem dX10_placeInRanking_51 : decode cX10_placeInRanking 51 = .ok (.lcmp, 1) := by decide +kernel
theorem dX10_placeInRanking_52 : decode cX10_placeInRanking 52 = .ok (.ifCond .gt 16, 3) := by decide +kernel
theorem dX10_placeInRanking_55 : decode cX10_placeInRanking 55 = .ok (.lload 6, 2) := by decide +kernel
theorem dX10_placeInRanking_57 : decode cX10_placeInRanking 57 = .ok (.lload_n 2, 1) := by decide +kernel
theorem dX10_placeInRanking_58 : decode cX10_placeInRanking 58 = .ok (.lcmp, 1) := by decide +kernel
theorem dX10_placeInRanking_59 : decode cX10_placeInRanking 59 = .ok (.ifCond .ne 12, 3) := by decide +kernel
theorem dX10_placeInRanking_62 : decode cX10_placeInRanking 62 = .ok (.iload 5, 2) := by decide +kernel
theorem dX10_placeInRanking_64 : decode cX10_placeInRanking 64 = .ok (.iload_n 1, 1) := by decide +kernel
theorem dX10_placeInRanking_65 : decode cX10_placeInRanking 65 = .ok (.if_icmp .ge 6, 3) := by decide +kernel
theorem dX10_placeInRanking_71 : decode cX10_placeInRanking 71 = .ok (.iinc 5 1, 3) := by decide +kernel
theorem dX10_placeInRanking_74 : decode cX10_placeInRanking 74 = .ok (.goto (-54), 3) := by decide +kernel
theorem dX10_placeInRanking_77 : decode cX10_placeInRanking 77 = .ok (.iload 4, 2) := by decide +kernel
theorem dX10_placeInRanking_79 : decode cX10_placeInRanking 79 = .ok (.ireturn, 1) := by decide +kernel
theorem dX10_share_0 : decode cX10_share 0 = .ok (.aload_n 0, 1) := by decide +kernel
theorem dX10_share_1 : decode cX10_share 1 = .ok (.iload_n 1, 1) := by decide +kernel
theorem dX10_share_2 : decode cX10_share 2 = .ok (.invokevirtual 315, 3) := by decide +kernel
theorem dX10_share_5 : decode cX10_share 5 = .ok (.lconst 0, 1) := by decide +kernel
theorem dX10_share_6 : decode cX10_share 6 = .ok (.lstore_n 2, 1) := by decide +kernel
theorem dX10_share_7 : decode cX10_share 7 = .ok (.iconst 0, 1) := by decide +kernel
theorem dX10_share_8 : decode cX10_share 8 = .ok (.istore 4, 2) := by decide +kernel
theorem dX10_share_10 : decode cX10_share 10 = .ok (.iload 4, 2) := by decide +kernel
theorem dX10_share_12 : decode cX10_share 12 = .ok (.aload_n 0, 1) := by decide +kernel
theorem dX10_share_13 : decode cX10_share 13 = .ok (.getfield 26, 3) := by decide +kernel
theorem dX10_share_16 : decode cX10_share 16 = .ok (.getfield 212, 3) := by decide +kernel
theorem dX10_share_19 : decode cX10_share 19 = .ok (.if_icmp .ge 26, 3) := by decide +kernel
theorem dX10_share_22 : decode cX10_share 22 = .ok (.lload_n 2, 1) := by decide +kernel
theorem dX10_share_23 : decode cX10_share 23 = .ok (.aload_n 0, 1) := by decide +kernel
theorem dX10_share_24 : decode cX10_share 24 = .ok (.getfield 36, 3) := by decide +kernel
theorem dX10_share_27 : decode cX10_share 27 = .ok (.aload_n 0, 1) := by decide +kernel
theorem dX10_share_28 : decode cX10_share 28 = .ok (.getfield 26, 3) := by decide +kernel
theorem dX10_share_31 : decode cX10_share 31 = .ok (.iload 4, 2) := by decide +kernel
theorem dX10_share_33 : decode cX10_share 33 = .ok (.iconst 0, 1) := by decide +kernel
theorem dX10_share_34 : decode cX10_share 34 = .ok (.invokevirtual 322, 3) := by decide +kernel
theorem dX10_share_37 : decode cX10_share 37 = .ok (.ladd, 1) := by decide +kernel
theorem dX10_share_38 : decode cX10_share 38 = .ok (.lstore_n 2, 1) := by decide +kernel
theorem dX10_share_39 : decode cX10_share 39 = .ok (.iinc 4 1, 3) := by decide +kernel
theorem dX10_share_42 : decode cX10_share 42 = .ok (.goto (-32), 3) := by decide +kernel
theorem dX10_share_45 : decode cX10_share 45 = .ok (.lload_n 2, 1) := by decide +kernel
theorem dX10_share_46 : decode cX10_share 46 = .ok (.lconst 0, 1) := by decide +kernel
theorem dX10_share_47 : decode cX10_share 47 = .ok (.lcmp, 1) := by decide +kernel
theorem dX10_share_48 : decode cX10_share 48 = .ok (.ifCond .ne 14, 3) := by decide +kernel
theorem dX10_share_51 : decode cX10_share 51 = .ok (.new 329, 3) := by decide +kernel
theorem dX10_share_54 : decode cX10_share 54 = .ok (.dup, 1) := by decide +kernel
theorem dX10_share_55 : decode cX10_share 55 = .ok (.ldc_w 331, 3) := by decide +kernel
theorem dX10_share_58 : decode cX10_share 58 = .ok (.invokespecial 333, 3) := by decide +kernel
theorem dX10_share_61 : decode cX10_share 61 = .ok (.athrow, 1) := by decide +kernel
theorem dX10_requestedValue_0 : decode cX10_requestedValue 0 = .ok (.aload_n 0, 1) := by decide +kernel
theorem dX10_requestedValue_1 : decode cX10_requestedValue 1 = .ok (.getfield 36, 3) := by decide +kernel
theorem dX10_requestedValue_4 : decode cX10_requestedValue 4 = .ok (.aload_n 0, 1) := by decide +kernel
theorem dX10_requestedValue_5 : decode cX10_requestedValue 5 = .ok (.getfield 26, 3) := by decide +kernel
theorem dX10_requestedValue_8 : decode cX10_requestedValue 8 = .ok (.invokevirtual 334, 3) := by decide +kernel
theorem dX10_requestedValue_11 : decode cX10_requestedValue 11 = .ok (.lreturn, 1) := by decide +kernel
theorem dX10_gateLimit_0 : decode cX10_gateLimit 0 = .ok (.aload_n 0, 1) := by decide +kernel
theorem dX10_gateLimit_1 : decode cX10_gateLimit 1 = .ok (.getfield 26, 3) := by decide +kernel
theorem dX10_gateLimit_4 : decode cX10_gateLimit 4 = .ok (.invokevirtual 337, 3) := by decide +kernel
theorem dX10_gateLimit_7 : decode cX10_gateLimit 7 = .ok (.lreturn, 1) := by decide +kernel
theorem dX10_wouldRedeem_0 : decode cX10_wouldRedeem 0 = .ok (.aload_n 0, 1) := by decide +kernel
theorem dX10_wouldRedeem_1 : decode cX10_wouldRedeem 1 = .ok (.iload_n 1, 1) := by decide +kernel
theorem dX10_wouldRedeem_2 : decode cX10_wouldRedeem 2 = .ok (.invokevirtual 122, 3) := by decide +kernel
theorem dX10_dealsUntilDone_0 : decode cX10_dealsUntilDone 0 = .ok (.aload_n 0, 1) := by decide +kernel
theorem dX10_dealsUntilDone_1 : decode cX10_dealsUntilDone 1 = .ok (.iload_n 1, 1) := by decide +kernel
theorem dX10_dealsUntilDone_2 : decode cX10_dealsUntilDone 2 = .ok (.invokevirtual 122, 3) := by decide +kernel
theorem dX10_feesIf_0 : decode cX10_feesIf 0 = .ok (.iload_n 1, 1) := by decide +kernel
theorem dX10_feesIf_1 : decode cX10_feesIf 1 = .ok (.sipush (-9000), 3) := by decide +kernel
theorem dX10_feesIf_4 : decode cX10_feesIf 4 = .ok (.if_icmp .lt 10, 3) := by decide +kernel
theorem dX10_feesIf_7 : decode cX10_feesIf 7 = .ok (.iload_n 1, 1) := by decide +kernel
theorem dX10_feesIf_8 : decode cX10_feesIf 8 = .ok (.sipush 9999, 3) := by decide +kernel
theorem dX10_feesIf_11 : decode cX10_feesIf 11 = .ok (.if_icmp .le 14, 3) := by decide +kernel
theorem dX10_feesIf_14 : decode cX10_feesIf 14 = .ok (.new 71, 3) := by decide +kernel
theorem dX10_feesIf_17 : decode cX10_feesIf 17 = .ok (.dup, 1) := by decide +kernel
theorem dX10_feesIf_18 : decode cX10_feesIf 18 = .ok (.ldc_w 360, 3) := by decide +kernel
theorem dX10_feesIf_21 : decode cX10_feesIf 21 = .ok (.invokespecial 75, 3) := by decide +kernel
theorem dX10_feesIf_24 : decode cX10_feesIf 24 = .ok (.athrow, 1) := by decide +kernel
theorem dX10_feesIf_25 : decode cX10_feesIf 25 = .ok (.aload_n 0, 1) := by decide +kernel
theorem dX10_feesIf_26 : decode cX10_feesIf 26 = .ok (.getfield 30, 3) := by decide +kernel
theorem dX10_feesIf_29 : decode cX10_feesIf 29 = .ok (.aload_n 0, 1) := by decide +kernel
theorem dX10_feesIf_30 : decode cX10_feesIf 30 = .ok (.getfield 26, 3) := by decide +kernel
theorem dX10_feesIf_33 : decode cX10_feesIf 33 = .ok (.invokevirtual 101, 3) := by decide +kernel
theorem dX10_feesIf_36 : decode cX10_feesIf 36 = .ok (.aload_n 0, 1) := by decide +kernel
theorem dX10_feesIf_37 : decode cX10_feesIf 37 = .ok (.getfield 30, 3) := by decide +kernel
theorem dX10_feesIf_40 : decode cX10_feesIf 40 = .ok (.iload_n 1, 1) := by decide +kernel
theorem dX10_feesIf_41 : decode cX10_feesIf 41 = .ok (.invokestatic 144, 3) := by decide +kernel
theorem dX10_feesIf_44 : decode cX10_feesIf 44 = .ok (.pop2, 1) := by decide +kernel
theorem dX10_feesIf_45 : decode cX10_feesIf 45 = .ok (.lconst 0, 1) := by decide +kernel
theorem dX10_feesIf_46 : decode cX10_feesIf 46 = .ok (.lstore_n 2, 1) := by decide +kernel
theorem dX10_feesIf_47 : decode cX10_feesIf 47 = .ok (.iconst 0, 1) := by decide +kernel
theorem dX10_feesIf_48 : decode cX10_feesIf 48 = .ok (.istore 4, 2) := by decide +kernel
theorem dX10_feesIf_50 : decode cX10_feesIf 50 = .ok (.iload 4, 2) := by decide +kernel
theorem dX10_feesIf_52 : decode cX10_feesIf 52 = .ok (.aload_n 0, 1) := by decide +kernel
theorem dX10_feesIf_53 : decode cX10_feesIf 53 = .ok (.getfield 30, 3) := by decide +kernel
theorem dX10_feesIf_56 : decode cX10_feesIf 56 = .ok (.getfield 227, 3) := by decide +kernel
theorem dX10_feesIf_59 : decode cX10_feesIf 59 = .ok (.if_icmp .ge 32, 3) := by decide +kernel
theorem dX10_feesIf_91 : decode cX10_feesIf 91 = .ok (.lload_n 2, 1) := by decide +kernel
theorem dX10_feesIf_92 : decode cX10_feesIf 92 = .ok (.lreturn, 1) := by decide +kernel
theorem dX10_breakEven_0 : decode cX10_breakEven 0 = .ok (.aload_n 0, 1) := by decide +kernel
theorem dX10_breakEven_1 : decode cX10_breakEven 1 = .ok (.getfield 26, 3) := by decide +kernel
theorem dX10_breakEven_4 : decode cX10_breakEven 4 = .ok (.getfield 250, 3) := by decide +kernel
theorem dX10_breakEven_7 : decode cX10_breakEven 7 = .ok (.aload_n 0, 1) := by decide +kernel
theorem dX10_breakEven_8 : decode cX10_breakEven 8 = .ok (.iload_n 1, 1) := by decide +kernel
theorem dX10_breakEven_9 : decode cX10_breakEven 9 = .ok (.invokevirtual 259, 3) := by decide +kernel
theorem dX10_rateFor_0 : decode cX10_rateFor 0 = .ok (.aload_n 0, 1) := by decide +kernel
theorem dX10_rateFor_1 : decode cX10_rateFor 1 = .ok (.iload_n 1, 1) := by decide +kernel
theorem dX10_rateFor_2 : decode cX10_rateFor 2 = .ok (.invokevirtual 315, 3) := by decide +kernel
theorem dX10_rateFor_5 : decode cX10_rateFor 5 = .ok (.aload_n 0, 1) := by decide +kernel
theorem dX10_rateFor_6 : decode cX10_rateFor 6 = .ok (.iload_n 1, 1) := by decide +kernel
theorem dX10_rateFor_7 : decode cX10_rateFor 7 = .ok (.lload_n 2, 1) := by decide +kernel
theorem dX10_rateFor_8 : decode cX10_rateFor 8 = .ok (.invokevirtual 379, 3) := by decide +kernel
theorem dX10_rateFor_11 : decode cX10_rateFor 11 = .ok (.istore 4, 2) := by decide +kernel
theorem dX10_rateFor_13 : decode cX10_rateFor 13 = .ok (.iload 4, 2) := by decide +kernel
theorem dX10_rateFor_15 : decode cX10_rateFor 15 = .ok (.sipush 9999, 3) := by decide +kernel
theorem dX10_rateFor_18 : decode cX10_rateFor 18 = .ok (.if_icmp .gt 31, 3) := by decide +kernel
theorem dX10_rateFor_21 : decode cX10_rateFor 21 = .ok (.aload_n 0, 1) := by decide +kernel
theorem dX10_rateFor_22 : decode cX10_rateFor 22 = .ok (.getfield 36, 3) := by decide +kernel
theorem dX10_rateFor_25 : decode cX10_rateFor 25 = .ok (.aload_n 0, 1) := by decide +kernel
theorem dX10_rateFor_26 : decode cX10_rateFor 26 = .ok (.getfield 26, 3) := by decide +kernel
theorem dX10_rateFor_29 : decode cX10_rateFor 29 = .ok (.iload_n 1, 1) := by decide +kernel
theorem dX10_rateFor_30 : decode cX10_rateFor 30 = .ok (.iload 4, 2) := by decide +kernel
theorem dX10_rateFor_32 : decode cX10_rateFor 32 = .ok (.invokevirtual 322, 3) := by decide +kernel
theorem dX10_rateFor_35 : decode cX10_rateFor 35 = .ok (.lload_n 2, 1) := by decide +kernel
theorem dX10_rateFor_36 : decode cX10_rateFor 36 = .ok (.lcmp, 1) := by decide +kernel
theorem dX10_rateFor_37 : decode cX10_rateFor 37 = .ok (.ifCond .lt 6, 3) := by decide +kernel
theorem dX10_rateFor_40 : decode cX10_rateFor 40 = .ok (.iload 4, 2) := by decide +kernel
theorem dX10_rateFor_42 : decode cX10_rateFor 42 = .ok (.ireturn, 1) := by decide +kernel
theorem dX10_rateFor_49 : decode cX10_rateFor 49 = .ok (.new 369, 3) := by decide +kernel
theorem dX10_rateFor_52 : decode cX10_rateFor 52 = .ok (.dup, 1) := by decide +kernel
theorem dX10_rateFor_53 : decode cX10_rateFor 53 = .ok (.ldc_w 383, 3) := by decide +kernel
theorem dX10_rateFor_56 : decode cX10_rateFor 56 = .ok (.invokespecial 373, 3) := by decide +kernel
theorem dX10_rateFor_59 : decode cX10_rateFor 59 = .ok (.athrow, 1) := by decide +kernel
theorem dX10_firstRateInReach_0 : decode cX10_firstRateInReach 0 = .ok (.aload_n 0, 1) := by decide +kernel
theorem dX10_firstRateInReach_1 : decode cX10_firstRateInReach 1 = .ok (.getfield 26, 3) := by decide +kernel
theorem dX10_firstRateInReach_4 : decode cX10_firstRateInReach 4 = .ok (.iload_n 1, 1) := by decide +kernel
theorem dX10_firstRateInReach_5 : decode cX10_firstRateInReach 5 = .ok (.invokevirtual 385, 3) := by decide +kernel
theorem dX10_firstRateInReach_8 : decode cX10_firstRateInReach 8 = .ok (.lstore 4, 2) := by decide +kernel
theorem dX10_firstRateInReach_10 : decode cX10_firstRateInReach 10 = .ok (.sipush (-9000), 3) := by decide +kernel
theorem dX10_firstRateInReach_13 : decode cX10_firstRateInReach 13 = .ok (.istore 6, 2) := by decide +kernel
theorem dX10_firstRateInReach_15 : decode cX10_firstRateInReach 15 = .ok (.sipush 10000, 3) := by decide +kernel
theorem dX10_firstRateInReach_18 : decode cX10_firstRateInReach 18 = .ok (.istore 7, 2) := by decide +kernel
theorem dX10_firstRateInReach_20 : decode cX10_firstRateInReach 20 = .ok (.iconst 0, 1) := by decide +kernel
theorem dX10_firstRateInReach_21 : decode cX10_firstRateInReach 21 = .ok (.istore 8, 2) := by decide +kernel
theorem dX10_firstRateInReach_23 : decode cX10_firstRateInReach 23 = .ok (.iload 8, 2) := by decide +kernel
theorem dX10_firstRateInReach_25 : decode cX10_firstRateInReach 25 = .ok (.bipush 32, 2) := by decide +kernel
theorem dX10_firstRateInReach_27 : decode cX10_firstRateInReach 27 = .ok (.if_icmp .ge 62, 3) := by decide +kernel
theorem dX10_firstRateInReach_30 : decode cX10_firstRateInReach 30 = .ok (.iload 6, 2) := by decide +kernel
theorem dX10_firstRateInReach_32 : decode cX10_firstRateInReach 32 = .ok (.iload 7, 2) := by decide +kernel
theorem dX10_firstRateInReach_34 : decode cX10_firstRateInReach 34 = .ok (.if_icmp .ge 55, 3) := by decide +kernel
theorem dX10_firstRateInReach_37 : decode cX10_firstRateInReach 37 = .ok (.iload 6, 2) := by decide +kernel
theorem dX10_firstRateInReach_39 : decode cX10_firstRateInReach 39 = .ok (.iload 7, 2) := by decide +kernel
theorem dX10_firstRateInReach_41 : decode cX10_firstRateInReach 41 = .ok (.iadd, 1) := by decide +kernel
theorem dX10_firstRateInReach_42 : decode cX10_firstRateInReach 42 = .ok (.iconst 2, 1) := by decide +kernel
theorem dX10_firstRateInReach_43 : decode cX10_firstRateInReach 43 = .ok (.invokestatic 374, 3) := by decide +kernel
theorem dX10_firstRateInReach_46 : decode cX10_firstRateInReach 46 = .ok (.istore 9, 2) := by decide +kernel
theorem dX10_firstRateInReach_48 : decode cX10_firstRateInReach 48 = .ok (.aload_n 0, 1) := by decide +kernel
theorem dX10_firstRateInReach_49 : decode cX10_firstRateInReach 49 = .ok (.getfield 36, 3) := by decide +kernel
theorem dX10_firstRateInReach_52 : decode cX10_firstRateInReach 52 = .ok (.aload_n 0, 1) := by decide +kernel
theorem dX10_firstRateInReach_53 : decode cX10_firstRateInReach 53 = .ok (.getfield 26, 3) := by decide +kernel
theorem dX10_firstRateInReach_56 : decode cX10_firstRateInReach 56 = .ok (.iload_n 1, 1) := by decide +kernel
theorem dX10_firstRateInReach_57 : decode cX10_firstRateInReach 57 = .ok (.iload 9, 2) := by decide +kernel
theorem dX10_firstRateInReach_59 : decode cX10_firstRateInReach 59 = .ok (.invokevirtual 322, 3) := by decide +kernel
theorem dX10_firstRateInReach_62 : decode cX10_firstRateInReach 62 = .ok (.lload 4, 2) := by decide +kernel
theorem dX10_firstRateInReach_64 : decode cX10_firstRateInReach 64 = .ok (.ladd, 1) := by decide +kernel
theorem dX10_firstRateInReach_65 : decode cX10_firstRateInReach 65 = .ok (.lload_n 2, 1) := by decide +kernel
theorem dX10_firstRateInReach_66 : decode cX10_firstRateInReach 66 = .ok (.lcmp, 1) := by decide +kernel
theorem dX10_firstRateInReach_67 : decode cX10_firstRateInReach 67 = .ok (.ifCond .ge 12, 3) := by decide +kernel
theorem dX10_firstRateInReach_70 : decode cX10_firstRateInReach 70 = .ok (.iload 9, 2) := by decide +kernel
theorem dX10_firstRateInReach_72 : decode cX10_firstRateInReach 72 = .ok (.iconst 1, 1) := by decide +kernel
theorem dX10_firstRateInReach_73 : decode cX10_firstRateInReach 73 = .ok (.iadd, 1) := by decide +kernel
theorem dX10_firstRateInReach_74 : decode cX10_firstRateInReach 74 = .ok (.istore 6, 2) := by decide +kernel
theorem dX10_firstRateInReach_76 : decode cX10_firstRateInReach 76 = .ok (.goto 7, 3) := by decide +kernel
theorem dX10_firstRateInReach_79 : decode cX10_firstRateInReach 79 = .ok (.iload 9, 2) := by decide +kernel
theorem dX10_firstRateInReach_81 : decode cX10_firstRateInReach 81 = .ok (.istore 7, 2) := by decide +kernel
theorem dX10_firstRateInReach_83 : decode cX10_firstRateInReach 83 = .ok (.iinc 8 1, 3) := by decide +kernel
theorem dX10_firstRateInReach_86 : decode cX10_firstRateInReach 86 = .ok (.goto (-63), 3) := by decide +kernel
theorem dX10_firstRateInReach_89 : decode cX10_firstRateInReach 89 = .ok (.iload 6, 2) := by decide +kernel
theorem dX10_firstRateInReach_91 : decode cX10_firstRateInReach 91 = .ok (.ireturn, 1) := by decide +kernel
theorem dX10_daysUntil_0 : decode cX10_daysUntil 0 = .ok (.lload_n 1, 1) := by decide +kernel
theorem dX10_daysUntil_1 : decode cX10_daysUntil 1 = .ok (.lconst 0, 1) := by decide +kernel
theorem dX10_daysUntil_2 : decode cX10_daysUntil 2 = .ok (.lcmp, 1) := by decide +kernel
theorem dX10_daysUntil_3 : decode cX10_daysUntil 3 = .ok (.ifCond .ge 14, 3) := by decide +kernel
theorem dX10_daysUntil_6 : decode cX10_daysUntil 6 = .ok (.new 71, 3) := by decide +kernel
theorem dX10_daysUntil_9 : decode cX10_daysUntil 9 = .ok (.dup, 1) := by decide +kernel
theorem dX10_daysUntil_10 : decode cX10_daysUntil 10 = .ok (.ldc_w 388, 3) := by decide +kernel
theorem dX10_daysUntil_13 : decode cX10_daysUntil 13 = .ok (.invokespecial 75, 3) := by decide +kernel
theorem dX10_daysUntil_16 : decode cX10_daysUntil 16 = .ok (.athrow, 1) := by decide +kernel
theorem dX10_daysUntil_17 : decode cX10_daysUntil 17 = .ok (.aload_n 0, 1) := by decide +kernel
theorem dX10_daysUntil_18 : decode cX10_daysUntil 18 = .ok (.getfield 30, 3) := by decide +kernel
theorem dX10_daysUntil_21 : decode cX10_daysUntil 21 = .ok (.aload_n 0, 1) := by decide +kernel
theorem dX10_daysUntil_22 : decode cX10_daysUntil 22 = .ok (.getfield 26, 3) := by decide +kernel
theorem dX10_daysUntil_25 : decode cX10_daysUntil 25 = .ok (.invokevirtual 101, 3) := by decide +kernel
theorem dX10_daysUntil_28 : decode cX10_daysUntil 28 = .ok (.iconst 0, 1) := by decide +kernel
theorem dX10_daysUntil_29 : decode cX10_daysUntil 29 = .ok (.istore_n 3, 1) := by decide +kernel
theorem dX10_daysUntil_30 : decode cX10_daysUntil 30 = .ok (.iload_n 3, 1) := by decide +kernel
theorem dX10_daysUntil_31 : decode cX10_daysUntil 31 = .ok (.sipush 400, 3) := by decide +kernel
theorem dX10_daysUntil_34 : decode cX10_daysUntil 34 = .ok (.if_icmp .gt 32, 3) := by decide +kernel
theorem dX10_daysUntil_37 : decode cX10_daysUntil 37 = .ok (.aload_n 0, 1) := by decide +kernel
theorem dX10_daysUntil_38 : decode cX10_daysUntil 38 = .ok (.getfield 30, 3) := by decide +kernel
theorem dX10_daysUntil_41 : decode cX10_daysUntil 41 = .ok (.invokevirtual 238, 3) := by decide +kernel
theorem dX10_daysUntil_44 : decode cX10_daysUntil 44 = .ok (.lload_n 1, 1) := by decide +kernel
theorem dX10_daysUntil_45 : decode cX10_daysUntil 45 = .ok (.lcmp, 1) := by decide +kernel
theorem dX10_daysUntil_46 : decode cX10_daysUntil 46 = .ok (.ifCond .gt 5, 3) := by decide +kernel
theorem dX10_daysUntil_49 : decode cX10_daysUntil 49 = .ok (.iload_n 3, 1) := by decide +kernel
theorem dX10_daysUntil_50 : decode cX10_daysUntil 50 = .ok (.ireturn, 1) := by decide +kernel
theorem dX10_wouldCrystallize_0 : decode cX10_wouldCrystallize 0 = .ok (.aload_n 0, 1) := by decide +kernel
theorem dX10_wouldCrystallize_1 : decode cX10_wouldCrystallize 1 = .ok (.getfield 30, 3) := by decide +kernel
theorem dX10_wouldCrystallize_4 : decode cX10_wouldCrystallize 4 = .ok (.aload_n 0, 1) := by decide +kernel
theorem dX10_wouldCrystallize_5 : decode cX10_wouldCrystallize 5 = .ok (.getfield 26, 3) := by decide +kernel
theorem dX10_wouldCrystallize_8 : decode cX10_wouldCrystallize 8 = .ok (.invokevirtual 101, 3) := by decide +kernel
theorem dX10_wouldCrystallize_11 : decode cX10_wouldCrystallize 11 = .ok (.aload_n 0, 1) := by decide +kernel
theorem dX10_wouldCrystallize_12 : decode cX10_wouldCrystallize 12 = .ok (.getfield 30, 3) := by decide +kernel
theorem dX10_wouldCrystallize_15 : decode cX10_wouldCrystallize 15 = .ok (.invokestatic 155, 3) := by decide +kernel
theorem dX10_wouldCrystallize_18 : decode cX10_wouldCrystallize 18 = .ok (.lreturn, 1) := by decide +kernel
theorem dX10_wouldMerge_0 : decode cX10_wouldMerge 0 = .ok (.aload_n 0, 1) := by decide +kernel
theorem dX10_wouldMerge_1 : decode cX10_wouldMerge 1 = .ok (.getfield 30, 3) := by decide +kernel
theorem dX10_wouldMerge_4 : decode cX10_wouldMerge 4 = .ok (.aload_n 0, 1) := by decide +kernel
theorem dX10_wouldMerge_5 : decode cX10_wouldMerge 5 = .ok (.getfield 26, 3) := by decide +kernel
theorem dX10_wouldMerge_8 : decode cX10_wouldMerge 8 = .ok (.invokevirtual 101, 3) := by decide +kernel
theorem dX10_wouldMerge_11 : decode cX10_wouldMerge 11 = .ok (.aload_n 0, 1) := by decide +kernel
theorem dX10_wouldMerge_12 : decode cX10_wouldMerge 12 = .ok (.getfield 30, 3) := by decide +kernel
theorem dX10_wouldMerge_15 : decode cX10_wouldMerge 15 = .ok (.invokestatic 155, 3) := by decide +kernel
theorem dX10_wouldMerge_18 : decode cX10_wouldMerge 18 = .ok (.pop2, 1) := by decide +kernel
theorem dX10_wouldMerge_19 : decode cX10_wouldMerge 19 = .ok (.aload_n 0, 1) := by decide +kernel
theorem dX10_wouldMerge_20 : decode cX10_wouldMerge 20 = .ok (.getfield 30, 3) := by decide +kernel
theorem dX10_wouldMerge_23 : decode cX10_wouldMerge 23 = .ok (.invokestatic 159, 3) := by decide +kernel
theorem dX10_wouldMerge_26 : decode cX10_wouldMerge 26 = .ok (.ireturn, 1) := by decide +kernel
theorem dX10_bestGate_0 : decode cX10_bestGate 0 = .ok (.aload_n 0, 1) := by decide +kernel
theorem dX10_bestGate_1 : decode cX10_bestGate 1 = .ok (.iload_n 1, 1) := by decide +kernel
theorem dX10_bestGate_2 : decode cX10_bestGate 2 = .ok (.invokevirtual 122, 3) := by decide +kernel
theorem dX10_writeReport_0 : decode cX10_writeReport 0 = .ok (.aload_n 0, 1) := by decide +kernel
theorem dX10_writeReport_1 : decode cX10_writeReport 1 = .ok (.getfield 53, 3) := by decide +kernel
theorem dX10_writeReport_4 : decode cX10_writeReport 4 = .ok (.aload_n 0, 1) := by decide +kernel
theorem dX10_writeReport_5 : decode cX10_writeReport 5 = .ok (.getfield 26, 3) := by decide +kernel
theorem dX10_writeReport_8 : decode cX10_writeReport 8 = .ok (.invokevirtual 390, 3) := by decide +kernel
theorem dX10_writeReport_11 : decode cX10_writeReport 11 = .ok (.aload_n 0, 1) := by decide +kernel
theorem dX10_writeReport_12 : decode cX10_writeReport 12 = .ok (.getfield 53, 3) := by decide +kernel
theorem dX10_writeReport_15 : decode cX10_writeReport 15 = .ok (.getfield 393, 3) := by decide +kernel
theorem dX10_writeReport_18 : decode cX10_writeReport 18 = .ok (.ireturn, 1) := by decide +kernel
theorem dX10_reportByte_0 : decode cX10_reportByte 0 = .ok (.iload_n 1, 1) := by decide +kernel
theorem dX10_reportByte_1 : decode cX10_reportByte 1 = .ok (.ifCond .lt 14, 3) := by decide +kernel
theorem dX10_reportByte_4 : decode cX10_reportByte 4 = .ok (.iload_n 1, 1) := by decide +kernel
theorem dX10_reportByte_5 : decode cX10_reportByte 5 = .ok (.aload_n 0, 1) := by decide +kernel
theorem dX10_reportByte_6 : decode cX10_reportByte 6 = .ok (.getfield 53, 3) := by decide +kernel
theorem dX10_reportByte_9 : decode cX10_reportByte 9 = .ok (.getfield 393, 3) := by decide +kernel
theorem dX10_reportByte_12 : decode cX10_reportByte 12 = .ok (.if_icmp .lt 14, 3) := by decide +kernel
theorem dX10_reportByte_15 : decode cX10_reportByte 15 = .ok (.new 196, 3) := by decide +kernel
theorem dX10_reportByte_18 : decode cX10_reportByte 18 = .ok (.dup, 1) := by decide +kernel
theorem dX10_reportByte_19 : decode cX10_reportByte 19 = .ok (.ldc_w 396, 3) := by decide +kernel
theorem dX10_reportByte_22 : decode cX10_reportByte 22 = .ok (.invokespecial 200, 3) := by decide +kernel
theorem dX10_reportByte_25 : decode cX10_reportByte 25 = .ok (.athrow, 1) := by decide +kernel
theorem dX10_undo_0 : decode cX10_undo 0 = .ok (.aload_n 0, 1) := by decide +kernel
theorem dX10_undo_1 : decode cX10_undo 1 = .ok (.getfield 47, 3) := by decide +kernel
theorem dX10_undo_4 : decode cX10_undo 4 = .ok (.ifCond .eq 15, 3) := by decide +kernel
theorem dX10_undo_19 : decode cX10_undo 19 = .ok (.new 60, 3) := by decide +kernel
theorem dX10_undo_22 : decode cX10_undo 22 = .ok (.dup, 1) := by decide +kernel
theorem dX10_undo_23 : decode cX10_undo 23 = .ok (.ldc_w 402, 3) := by decide +kernel
theorem dX10_undo_26 : decode cX10_undo 26 = .ok (.invokespecial 64, 3) := by decide +kernel
theorem dX10_undo_29 : decode cX10_undo 29 = .ok (.athrow, 1) := by decide +kernel
theorem dX10_undoDepth_0 : decode cX10_undoDepth 0 = .ok (.aload_n 0, 1) := by decide +kernel
theorem dX10_undoDepth_1 : decode cX10_undoDepth 1 = .ok (.getfield 47, 3) := by decide +kernel
theorem dX10_undoDepth_4 : decode cX10_undoDepth 4 = .ok (.ireturn, 1) := by decide +kernel
theorem dX11_init_0 : decode cX11_init 0 = .ok (.aload_n 0, 1) := by decide +kernel
theorem dX11_init_1 : decode cX11_init 1 = .ok (.invokespecial 1, 3) := by decide +kernel
theorem dX11_init_4 : decode cX11_init 4 = .ok (.aload_n 0, 1) := by decide +kernel
theorem dX11_init_5 : decode cX11_init 5 = .ok (.sipush 334, 3) := by decide +kernel
theorem dX11_init_8 : decode cX11_init 8 = .ok (.newarray .long, 2) := by decide +kernel
theorem dX11_init_10 : decode cX11_init 10 = .ok (.putfield 7, 3) := by decide +kernel
theorem dX11_init_13 : decode cX11_init 13 = .ok (.aload_n 0, 1) := by decide +kernel
theorem dX11_init_14 : decode cX11_init 14 = .ok (.sipush 334, 3) := by decide +kernel
theorem dX11_init_17 : decode cX11_init 17 = .ok (.newarray .long, 2) := by decide +kernel
theorem dX11_init_19 : decode cX11_init 19 = .ok (.putfield 13, 3) := by decide +kernel
theorem dX11_init_22 : decode cX11_init 22 = .ok (.aload_n 0, 1) := by decide +kernel
theorem dX11_init_23 : decode cX11_init 23 = .ok (.sipush 334, 3) := by decide +kernel
theorem dX11_init_26 : decode cX11_init 26 = .ok (.newarray .long, 2) := by decide +kernel
theorem dX11_init_28 : decode cX11_init 28 = .ok (.putfield 16, 3) := by decide +kernel
theorem dX11_init_31 : decode cX11_init 31 = .ok (.aload_n 0, 1) := by decide +kernel
theorem dX11_init_32 : decode cX11_init 32 = .ok (.sipush 334, 3) := by decide +kernel
theorem dX11_init_35 : decode cX11_init 35 = .ok (.newarray .long, 2) := by decide +kernel
theorem dX11_init_37 : decode cX11_init 37 = .ok (.putfield 19, 3) := by decide +kernel
theorem dX11_init_40 : decode cX11_init 40 = .ok (.aload_n 0, 1) := by decide +kernel
theorem dX11_init_41 : decode cX11_init 41 = .ok (.sipush 334, 3) := by decide +kernel
theorem dX11_init_44 : decode cX11_init 44 = .ok (.newarray .long, 2) := by decide +kernel
theorem dX11_init_46 : decode cX11_init 46 = .ok (.putfield 22, 3) := by decide +kernel
theorem dX11_init_49 : decode cX11_init 49 = .ok (.aload_n 0, 1) := by decide +kernel
theorem dX11_init_50 : decode cX11_init 50 = .ok (.sipush 3340, 3) := by decide +kernel
theorem dX11_init_53 : decode cX11_init 53 = .ok (.newarray .long, 2) := by decide +kernel
theorem dX11_init_55 : decode cX11_init 55 = .ok (.putfield 25, 3) := by decide +kernel
theorem dX11_init_58 : decode cX11_init 58 = .ok (.aload_n 0, 1) := by decide +kernel
theorem dX11_init_59 : decode cX11_init 59 = .ok (.bipush 12, 2) := by decide +kernel
theorem dX11_init_61 : decode cX11_init 61 = .ok (.newarray .long, 2) := by decide +kernel
theorem dX11_init_63 : decode cX11_init 63 = .ok (.putfield 28, 3) := by decide +kernel
theorem dX11_init_66 : decode cX11_init 66 = .ok (.aload_n 0, 1) := by decide +kernel
theorem dX11_init_67 : decode cX11_init 67 = .ok (.bipush 12, 2) := by decide +kernel
theorem dX11_init_69 : decode cX11_init 69 = .ok (.newarray .boolean, 2) := by decide +kernel
theorem dX11_init_71 : decode cX11_init 71 = .ok (.putfield 31, 3) := by decide +kernel
theorem dX11_init_74 : decode cX11_init 74 = .ok (.aload_n 0, 1) := by decide +kernel
theorem dX11_init_75 : decode cX11_init 75 = .ok (.sipush 400, 3) := by decide +kernel
theorem dX11_init_78 : decode cX11_init 78 = .ok (.newarray .byte, 2) := by decide +kernel
theorem dX11_init_80 : decode cX11_init 80 = .ok (.putfield 35, 3) := by decide +kernel
theorem dX11_init_83 : decode cX11_init 83 = .ok (.aload_n 0, 1) := by decide +kernel
theorem dX11_init_84 : decode cX11_init 84 = .ok (.iconst (-1), 1) := by decide +kernel
theorem dX11_init_85 : decode cX11_init 85 = .ok (.putfield 39, 3) := by decide +kernel
theorem dX11_init_88 : decode cX11_init 88 = .ok (.aload_n 0, 1) := by decide +kernel
theorem dX11_init_89 : decode cX11_init 89 = .ok (.bipush 6, 2) := by decide +kernel
theorem dX11_init_91 : decode cX11_init 91 = .ok (.newarray .long, 2) := by decide +kernel
theorem dX11_init_93 : decode cX11_init 93 = .ok (.putfield 43, 3) := by decide +kernel
theorem dX11_init_96 : decode cX11_init 96 = .ok (.aload_n 0, 1) := by decide +kernel
theorem dX11_init_97 : decode cX11_init 97 = .ok (.bipush 6, 2) := by decide +kernel
theorem dX11_init_99 : decode cX11_init 99 = .ok (.newarray .long, 2) := by decide +kernel
theorem dX11_init_101 : decode cX11_init 101 = .ok (.putfield 46, 3) := by decide +kernel
theorem dX11_init_104 : decode cX11_init 104 = .ok (.aload_n 0, 1) := by decide +kernel
theorem dX11_init_105 : decode cX11_init 105 = .ok (.sipush 2400, 3) := by decide +kernel
theorem dX11_init_108 : decode cX11_init 108 = .ok (.newarray .byte, 2) := by decide +kernel
theorem dX11_init_110 : decode cX11_init 110 = .ok (.putfield 49, 3) := by decide +kernel
theorem dX11_init_113 : decode cX11_init 113 = .ok (.aload_n 0, 1) := by decide +kernel
theorem dX11_init_114 : decode cX11_init 114 = .ok (.getfield 7, 3) := by decide +kernel
theorem dX11_init_117 : decode cX11_init 117 = .ok (.invokestatic 52, 3) := by decide +kernel
theorem dX11_init_120 : decode cX11_init 120 = .ok (.return_, 1) := by decide +kernel
theorem dX11_lay_0 : decode cX11_lay 0 = .ok (.iconst 0, 1) := by decide +kernel
theorem dX11_lay_1 : decode cX11_lay 1 = .ok (.istore_n 1, 1) := by decide +kernel
theorem dX11_lay_2 : decode cX11_lay 2 = .ok (.iload_n 1, 1) := by decide +kernel
theorem dX11_lay_3 : decode cX11_lay 3 = .ok (.sipush 334, 3) := by decide +kernel
theorem dX11_lay_6 : decode cX11_lay 6 = .ok (.if_icmp .ge 13, 3) := by decide +kernel
theorem dX11_lay_9 : decode cX11_lay 9 = .ok (.aload_n 0, 1) := by decide +kernel
theorem dX11_lay_10 : decode cX11_lay 10 = .ok (.iload_n 1, 1) := by decide +kernel
theorem dX11_lay_11 : decode cX11_lay 11 = .ok (.lconst 0, 1) := by decide +kernel
theorem dX11_lay_12 : decode cX11_lay 12 = .ok (.lastore, 1) := by decide +kernel
theorem dX11_lay_13 : decode cX11_lay 13 = .ok (.iinc 1 1, 3) := by decide +kernel
theorem dX11_lay_16 : decode cX11_lay 16 = .ok (.goto (-14), 3) := by decide +kernel
theorem dX11_lay_19 : decode cX11_lay 19 = .ok (.aload_n 0, 1) := by decide +kernel
theorem dX11_lay_20 : decode cX11_lay 20 = .ok (.iconst 0, 1) := by decide +kernel
theorem dX11_lay_21 : decode cX11_lay 21 = .ok (.lconst 1, 1) := by decide +kernel
theorem dX11_lay_22 : decode cX11_lay 22 = .ok (.lastore, 1) := by decide +kernel
theorem dX11_lay_23 : decode cX11_lay 23 = .ok (.aload_n 0, 1) := by decide +kernel
theorem dX11_lay_24 : decode cX11_lay 24 = .ok (.iconst 4, 1) := by decide +kernel
theorem dX11_lay_25 : decode cX11_lay 25 = .ok (.ldc2_w 56, 3) := by decide +kernel
theorem dX11_lay_28 : decode cX11_lay 28 = .ok (.lastore, 1) := by decide +kernel
theorem dX11_lay_29 : decode cX11_lay 29 = .ok (.return_, 1) := by decide +kernel
theorem dX11_in_0 : decode cX11_in 0 = .ok (.lload_n 0, 1) := by decide +kernel
theorem dX11_in_1 : decode cX11_in 1 = .ok (.lload_n 2, 1) := by decide +kernel
theorem dX11_in_2 : decode cX11_in 2 = .ok (.lcmp, 1) := by decide +kernel
theorem dX11_in_3 : decode cX11_in 3 = .ok (.ifCond .lt 14, 3) := by decide +kernel
theorem dX11_in_6 : decode cX11_in 6 = .ok (.lload_n 0, 1) := by decide +kernel
theorem dX11_in_7 : decode cX11_in 7 = .ok (.lload 4, 2) := by decide +kernel
theorem dX11_in_9 : decode cX11_in 9 = .ok (.lcmp, 1) := by decide +kernel
theorem dX11_in_10 : decode cX11_in 10 = .ok (.ifCond .gt 7, 3) := by decide +kernel
theorem dX11_in_13 : decode cX11_in 13 = .ok (.iconst 1, 1) := by decide +kernel
theorem dX11_in_14 : decode cX11_in 14 = .ok (.goto 4, 3) := by decide +kernel
theorem dX11_in_17 : decode cX11_in 17 = .ok (.iconst 0, 1) := by decide +kernel
theorem dX11_in_18 : decode cX11_in 18 = .ok (.ireturn, 1) := by decide +kernel
theorem dX11_no_0 : decode cX11_no 0 = .ok (.aload_n 0, 1) := by decide +kernel
theorem dX11_no_1 : decode cX11_no 1 = .ok (.iload_n 1, 1) := by decide +kernel
theorem dX11_no_2 : decode cX11_no 2 = .ok (.putfield 58, 3) := by decide +kernel
theorem dX11_no_5 : decode cX11_no 5 = .ok (.iconst 0, 1) := by decide +kernel
theorem dX11_no_6 : decode cX11_no 6 = .ok (.ireturn, 1) := by decide +kernel
theorem dX11_fails_0 : decode cX11_fails 0 = .ok (.aload_n 0, 1) := by decide +kernel
theorem dX11_fails_1 : decode cX11_fails 1 = .ok (.iload_n 1, 1) := by decide +kernel
theorem dX11_fails_2 : decode cX11_fails 2 = .ok (.ifCond .eq 7, 3) := by decide +kernel
theorem dX11_fails_5 : decode cX11_fails 5 = .ok (.iload_n 2, 1) := by decide +kernel
theorem dX11_fails_6 : decode cX11_fails 6 = .ok (.goto 4, 3) := by decide +kernel
theorem dX11_fails_9 : decode cX11_fails 9 = .ok (.iconst 0, 1) := by decide +kernel
theorem dX11_fails_10 : decode cX11_fails 10 = .ok (.putfield 58, 3) := by decide +kernel
theorem dX11_fails_13 : decode cX11_fails 13 = .ok (.iload_n 1, 1) := by decide +kernel
theorem dX11_fails_14 : decode cX11_fails 14 = .ok (.ireturn, 1) := by decide +kernel
theorem dX11_isInvestor_0 : decode cX11_isInvestor 0 = .ok (.iload_n 1, 1) := by decide +kernel
theorem dX11_isInvestor_1 : decode cX11_isInvestor 1 = .ok (.i2l, 1) := by decide +kernel
theorem dX11_isInvestor_2 : decode cX11_isInvestor 2 = .ok (.lconst 0, 1) := by decide +kernel
theorem dX11_isInvestor_3 : decode cX11_isInvestor 3 = .ok (.aload_n 0, 1) := by decide +kernel
theorem dX11_isInvestor_4 : decode cX11_isInvestor 4 = .ok (.getfield 7, 3) := by decide +kernel
theorem dX11_isInvestor_7 : decode cX11_isInvestor 7 = .ok (.iconst 0, 1) := by decide +kernel
theorem dX11_isInvestor_8 : decode cX11_isInvestor 8 = .ok (.laload, 1) := by decide +kernel
theorem dX11_isInvestor_9 : decode cX11_isInvestor 9 = .ok (.lconst 1, 1) := by decide +kernel
theorem dX11_isInvestor_10 : decode cX11_isInvestor 10 = .ok (.lsub, 1) := by decide +kernel
theorem dX11_isInvestor_11 : decode cX11_isInvestor 11 = .ok (.invokestatic 61, 3) := by decide +kernel
theorem dX11_isInvestor_14 : decode cX11_isInvestor 14 = .ok (.ireturn, 1) := by decide +kernel
theorem dX11_isNoInvestor_0 : decode cX11_isNoInvestor 0 = .ok (.aload_n 0, 1) := by decide +kernel
theorem dX11_isNoInvestor_1 : decode cX11_isNoInvestor 1 = .ok (.aload_n 0, 1) := by decide +kernel
theorem dX11_isNoInvestor_2 : decode cX11_isNoInvestor 2 = .ok (.iload_n 1, 1) := by decide +kernel
theorem dX11_isNoInvestor_3 : decode cX11_isNoInvestor 3 = .ok (.invokevirtual 65, 3) := by decide +kernel
theorem dX11_isNoInvestor_6 : decode cX11_isNoInvestor 6 = .ok (.ifCond .ne 7, 3) := by decide +kernel
theorem dX11_isNoInvestor_9 : decode cX11_isNoInvestor 9 = .ok (.iconst 1, 1) := by decide +kernel
theorem dX11_isNoInvestor_10 : decode cX11_isNoInvestor 10 = .ok (.goto 4, 3) := by decide +kernel
theorem dX11_isNoInvestor_13 : decode cX11_isNoInvestor 13 = .ok (.iconst 0, 1) := by decide +kernel
theorem dX11_isNoInvestor_14 : decode cX11_isNoInvestor 14 = .ok (.iconst 1, 1) := by decide +kernel
theorem dX11_isNoInvestor_15 : decode cX11_isNoInvestor 15 = .ok (.invokevirtual 69, 3) := by decide +kernel
theorem dX11_isNoInvestor_18 : decode cX11_isNoInvestor 18 = .ok (.ireturn, 1) := by decide +kernel
theorem dX11_isNoRequest_0 : decode cX11_isNoRequest 0 = .ok (.aload_n 0, 1) := by decide +kernel
theorem dX11_isNoRequest_1 : decode cX11_isNoRequest 1 = .ok (.iload_n 1, 1) := by decide +kernel
theorem dX11_isNoRequest_2 : decode cX11_isNoRequest 2 = .ok (.i2l, 1) := by decide +kernel
theorem dX11_isNoRequest_3 : decode cX11_isNoRequest 3 = .ok (.lconst 0, 1) := by decide +kernel
theorem dX11_isNoRequest_4 : decode cX11_isNoRequest 4 = .ok (.aload_n 0, 1) := by decide +kernel
theorem dX11_isNoRequest_5 : decode cX11_isNoRequest 5 = .ok (.getfield 7, 3) := by decide +kernel
theorem dX11_isNoRequest_8 : decode cX11_isNoRequest 8 = .ok (.bipush 8, 2) := by decide +kernel
theorem dX11_isNoRequest_10 : decode cX11_isNoRequest 10 = .ok (.laload, 1) := by decide +kernel
theorem dX11_isNoRequest_11 : decode cX11_isNoRequest 11 = .ok (.lconst 1, 1) := by decide +kernel
theorem dX11_isNoRequest_12 : decode cX11_isNoRequest 12 = .ok (.lsub, 1) := by decide +kernel
theorem dX11_isNoRequest_13 : decode cX11_isNoRequest 13 = .ok (.invokestatic 61, 3) := by decide +kernel
theorem dX11_isNoRequest_16 : decode cX11_isNoRequest 16 = .ok (.ifCond .ne 7, 3) := by decide +kernel
theorem dX11_isNoRequest_19 : decode cX11_isNoRequest 19 = .ok (.iconst 1, 1) := by decide +kernel
theorem dX11_isNoRequest_20 : decode cX11_isNoRequest 20 = .ok (.goto 4, 3) := by decide +kernel
theorem dX11_isNoRequest_24 : decode cX11_isNoRequest 24 = .ok (.iconst 1, 1) := by decide +kernel
theorem dX11_isNoRequest_25 : decode cX11_isNoRequest 25 = .ok (.invokevirtual 69, 3) := by decide +kernel
theorem dX11_isNoRequest_28 : decode cX11_isNoRequest 28 = .ok (.ireturn, 1) := by decide +kernel
theorem dX11_copy_0 : decode cX11_copy 0 = .ok (.iconst 0, 1) := by decide +kernel
theorem dX11_copy_1 : decode cX11_copy 1 = .ok (.istore_n 2, 1) := by decide +kernel
theorem dX11_copy_2 : decode cX11_copy 2 = .ok (.iload_n 2, 1) := by decide +kernel
theorem dX11_copy_3 : decode cX11_copy 3 = .ok (.sipush 334, 3) := by decide +kernel
theorem dX11_copy_6 : decode cX11_copy 6 = .ok (.if_icmp .ge 15, 3) := by decide +kernel
theorem dX11_copy_9 : decode cX11_copy 9 = .ok (.aload_n 1, 1) := by decide +kernel
theorem dX11_copy_10 : decode cX11_copy 10 = .ok (.iload_n 2, 1) := by decide +kernel
theorem dX11_copy_11 : decode cX11_copy 11 = .ok (.aload_n 0, 1) := by decide +kernel
theorem dX11_copy_12 : decode cX11_copy 12 = .ok (.iload_n 2, 1) := by decide +kernel
theorem dX11_copy_13 : decode cX11_copy 13 = .ok (.laload, 1) := by decide +kernel
theorem dX11_copy_14 : decode cX11_copy 14 = .ok (.lastore, 1) := by decide +kernel
theorem dX11_copy_15 : decode cX11_copy 15 = .ok (.iinc 2 1, 3) := by decide +kernel
theorem dX11_copy_18 : decode cX11_copy 18 = .ok (.goto (-16), 3) := by decide +kernel
theorem dX11_copy_21 : decode cX11_copy 21 = .ok (.return_, 1) := by decide +kernel
theorem dX11_push_0 : decode cX11_push 0 = .ok (.aload_n 0, 1) := by decide +kernel
theorem dX11_push_1 : decode cX11_push 1 = .ok (.getfield 73, 3) := by decide +kernel
theorem dX11_push_4 : decode cX11_push 4 = .ok (.bipush 10, 2) := by decide +kernel
theorem dX11_push_6 : decode cX11_push 6 = .ok (.if_icmp .ne 46, 3) := by decide +kernel
theorem dX11_push_52 : decode cX11_push 52 = .ok (.iconst 0, 1) := by decide +kernel
theorem dX11_push_53 : decode cX11_push 53 = .ok (.istore_n 1, 1) := by decide +kernel
theorem dX11_push_54 : decode cX11_push 54 = .ok (.iload_n 1, 1) := by decide +kernel
theorem dX11_push_55 : decode cX11_push 55 = .ok (.sipush 334, 3) := by decide +kernel
theorem dX11_push_58 : decode cX11_push 58 = .ok (.if_icmp .ge 30, 3) := by decide +kernel
theorem dX11_push_61 : decode cX11_push 61 = .ok (.aload_n 0, 1) := by decide +kernel
theorem dX11_push_62 : decode cX11_push 62 = .ok (.getfield 25, 3) := by decide +kernel
theorem dX11_push_65 : decode cX11_push 65 = .ok (.sipush 334, 3) := by decide +kernel
theorem dX11_push_68 : decode cX11_push 68 = .ok (.aload_n 0, 1) := by decide +kernel
theorem dX11_push_69 : decode cX11_push 69 = .ok (.getfield 73, 3) := by decide +kernel
theorem dX11_push_72 : decode cX11_push 72 = .ok (.imul, 1) := by decide +kernel
theorem dX11_push_73 : decode cX11_push 73 = .ok (.iload_n 1, 1) := by decide +kernel
theorem dX11_push_74 : decode cX11_push 74 = .ok (.iadd, 1) := by decide +kernel
theorem dX11_push_75 : decode cX11_push 75 = .ok (.aload_n 0, 1) := by decide +kernel
theorem dX11_push_76 : decode cX11_push 76 = .ok (.getfield 13, 3) := by decide +kernel
theorem dX11_push_79 : decode cX11_push 79 = .ok (.iload_n 1, 1) := by decide +kernel
theorem dX11_push_80 : decode cX11_push 80 = .ok (.laload, 1) := by decide +kernel
theorem dX11_push_81 : decode cX11_push 81 = .ok (.lastore, 1) := by decide +kernel
theorem dX11_push_82 : decode cX11_push 82 = .ok (.iinc 1 1, 3) := by decide +kernel
theorem dX11_push_85 : decode cX11_push 85 = .ok (.goto (-31), 3) := by decide +kernel
theorem dX11_push_88 : decode cX11_push 88 = .ok (.aload_n 0, 1) := by decide +kernel
theorem dX11_push_89 : decode cX11_push 89 = .ok (.dup, 1) := by decide +kernel
theorem dX11_push_90 : decode cX11_push 90 = .ok (.getfield 73, 3) := by decide +kernel
theorem dX11_push_93 : decode cX11_push 93 = .ok (.iconst 1, 1) := by decide +kernel
theorem dX11_push_94 : decode cX11_push 94 = .ok (.iadd, 1) := by decide +kernel
theorem dX11_push_95 : decode cX11_push 95 = .ok (.putfield 73, 3) := by decide +kernel
theorem dX11_push_98 : decode cX11_push 98 = .ok (.return_, 1) := by decide +kernel
theorem dX11_remember_0 : decode cX11_remember 0 = .ok (.aload_n 0, 1) := by decide +kernel
theorem dX11_remember_1 : decode cX11_remember 1 = .ok (.getfield 7, 3) := by decide +kernel
theorem dX11_remember_4 : decode cX11_remember 4 = .ok (.aload_n 0, 1) := by decide +kernel
theorem dX11_remember_5 : decode cX11_remember 5 = .ok (.getfield 13, 3) := by decide +kernel
theorem dX11_remember_8 : decode cX11_remember 8 = .ok (.invokestatic 76, 3) := by decide +kernel
theorem dX11_remember_11 : decode cX11_remember 11 = .ok (.aload_n 0, 1) := by decide +kernel
theorem dX11_remember_12 : decode cX11_remember 12 = .ok (.invokevirtual 80, 3) := by decide +kernel
theorem dX11_remember_15 : decode cX11_remember 15 = .ok (.return_, 1) := by decide +kernel
theorem dX11_undo_0 : decode cX11_undo 0 = .ok (.aload_n 0, 1) := by decide +kernel
theorem dX11_undo_1 : decode cX11_undo 1 = .ok (.getfield 73, 3) := by decide +kernel
theorem dX11_undo_4 : decode cX11_undo 4 = .ok (.ifCond .ne 9, 3) := by decide +kernel
theorem dX11_undo_7 : decode cX11_undo 7 = .ok (.aload_n 0, 1) := by decide +kernel
theorem dX11_undo_8 : decode cX11_undo 8 = .ok (.iconst 1, 1) := by decide +kernel
theorem dX11_undo_9 : decode cX11_undo 9 = .ok (.invokevirtual 83, 3) := by decide +kernel
theorem dX11_undo_12 : decode cX11_undo 12 = .ok (.ireturn, 1) := by decide +kernel
theorem dX11_undoDepth_0 : decode cX11_undoDepth 0 = .ok (.aload_n 0, 1) := by decide +kernel
theorem dX11_undoDepth_1 : decode cX11_undoDepth 1 = .ok (.iconst 0, 1) := by decide +kernel
theorem dX11_undoDepth_2 : decode cX11_undoDepth 2 = .ok (.putfield 58, 3) := by decide +kernel
theorem dX11_undoDepth_5 : decode cX11_undoDepth 5 = .ok (.aload_n 0, 1) := by decide +kernel
theorem dX11_undoDepth_6 : decode cX11_undoDepth 6 = .ok (.getfield 73, 3) := by decide +kernel
theorem dX11_undoDepth_9 : decode cX11_undoDepth 9 = .ok (.ireturn, 1) := by decide +kernel
theorem dX11_requestAt_0 : decode cX11_requestAt 0 = .ok (.sipush 286, 3) := by decide +kernel
theorem dX11_requestAt_3 : decode cX11_requestAt 3 = .ok (.iconst 4, 1) := by decide +kernel
theorem dX11_requestAt_4 : decode cX11_requestAt 4 = .ok (.iload_n 0, 1) := by decide +kernel
theorem dX11_requestAt_5 : decode cX11_requestAt 5 = .ok (.imul, 1) := by decide +kernel
theorem dX11_requestAt_6 : decode cX11_requestAt 6 = .ok (.iadd, 1) := by decide +kernel
theorem dX11_requestAt_7 : decode cX11_requestAt 7 = .ok (.ireturn, 1) := by decide +kernel
theorem dX11_placeOf_0 : decode cX11_placeOf 0 = .ok (.iconst 0, 1) := by decide +kernel
theorem dX11_placeOf_1 : decode cX11_placeOf 1 = .ok (.istore_n 3, 1) := by decide +kernel
theorem dX11_placeOf_2 : decode cX11_placeOf 2 = .ok (.iload_n 3, 1) := by decide +kernel
theorem dX11_placeOf_3 : decode cX11_placeOf 3 = .ok (.i2l, 1) := by decide +kernel
theorem dX11_placeOf_4 : decode cX11_placeOf 4 = .ok (.aload_n 0, 1) := by decide +kernel
theorem dX11_placeOf_5 : decode cX11_placeOf 5 = .ok (.getfield 7, 3) := by decide +kernel
theorem dX11_placeOf_8 : decode cX11_placeOf 8 = .ok (.bipush 6, 2) := by decide +kernel
theorem dX11_placeOf_10 : decode cX11_placeOf 10 = .ok (.laload, 1) := by decide +kernel
theorem dX11_placeOf_11 : decode cX11_placeOf 11 = .ok (.lcmp, 1) := by decide +kernel
theorem dX11_placeOf_12 : decode cX11_placeOf 12 = .ok (.ifCond .ge 30, 3) := by decide +kernel
theorem dX11_placeOf_42 : decode cX11_placeOf 42 = .ok (.iconst (-1), 1) := by decide +kernel
theorem dX11_placeOf_43 : decode cX11_placeOf 43 = .ok (.ireturn, 1) := by decide +kernel
theorem dX11_netAll_0 : decode cX11_netAll 0 = .ok (.lconst 0, 1) := by decide +kernel
theorem dX11_netAll_1 : decode cX11_netAll 1 = .ok (.lstore_n 1, 1) := by decide +kernel
theorem dX11_netAll_2 : decode cX11_netAll 2 = .ok (.iconst 0, 1) := by decide +kernel
theorem dX11_netAll_3 : decode cX11_netAll 3 = .ok (.istore_n 3, 1) := by decide +kernel
theorem dX11_netAll_4 : decode cX11_netAll 4 = .ok (.iload_n 3, 1) := by decide +kernel
theorem dX11_netAll_5 : decode cX11_netAll 5 = .ok (.i2l, 1) := by decide +kernel
theorem dX11_netAll_6 : decode cX11_netAll 6 = .ok (.aload_n 0, 1) := by decide +kernel
theorem dX11_netAll_7 : decode cX11_netAll 7 = .ok (.getfield 7, 3) := by decide +kernel
theorem dX11_netAll_10 : decode cX11_netAll 10 = .ok (.bipush 6, 2) := by decide +kernel
theorem dX11_netAll_12 : decode cX11_netAll 12 = .ok (.laload, 1) := by decide +kernel
theorem dX11_netAll_13 : decode cX11_netAll 13 = .ok (.lcmp, 1) := by decide +kernel
theorem dX11_netAll_14 : decode cX11_netAll 14 = .ok (.ifCond .ge 20, 3) := by decide +kernel
theorem dX11_netAll_34 : decode cX11_netAll 34 = .ok (.lload_n 1, 1) := by decide +kernel
theorem dX11_netAll_35 : decode cX11_netAll 35 = .ok (.lreturn, 1) := by decide +kernel
theorem dX11_accruedAll_0 : decode cX11_accruedAll 0 = .ok (.lconst 0, 1) := by decide +kernel
theorem dX11_accruedAll_1 : decode cX11_accruedAll 1 = .ok (.lstore_n 1, 1) := by decide +kernel
theorem dX11_accruedAll_2 : decode cX11_accruedAll 2 = .ok (.iconst 0, 1) := by decide +kernel
theorem dX11_accruedAll_3 : decode cX11_accruedAll 3 = .ok (.istore_n 3, 1) := by decide +kernel
theorem dX11_accruedAll_4 : decode cX11_accruedAll 4 = .ok (.iload_n 3, 1) := by decide +kernel
theorem dX11_accruedAll_5 : decode cX11_accruedAll 5 = .ok (.i2l, 1) := by decide +kernel
theorem dX11_accruedAll_6 : decode cX11_accruedAll 6 = .ok (.aload_n 0, 1) := by decide +kernel
theorem dX11_accruedAll_7 : decode cX11_accruedAll 7 = .ok (.getfield 7, 3) := by decide +kernel
theorem dX11_accruedAll_10 : decode cX11_accruedAll 10 = .ok (.bipush 6, 2) := by decide +kernel
theorem dX11_accruedAll_12 : decode cX11_accruedAll 12 = .ok (.laload, 1) := by decide +kernel
theorem dX11_accruedAll_13 : decode cX11_accruedAll 13 = .ok (.lcmp, 1) := by decide +kernel
theorem dX11_accruedAll_14 : decode cX11_accruedAll 14 = .ok (.ifCond .ge 20, 3) := by decide +kernel
theorem dX11_accruedAll_34 : decode cX11_accruedAll 34 = .ok (.lload_n 1, 1) := by decide +kernel
theorem dX11_accruedAll_35 : decode cX11_accruedAll 35 = .ok (.lreturn, 1) := by decide +kernel
theorem dX11_closeEmpty_0 : decode cX11_closeEmpty 0 = .ok (.aload_n 0, 1) := by decide +kernel
theorem dX11_closeEmpty_1 : decode cX11_closeEmpty 1 = .ok (.getfield 7, 3) := by decide +kernel
theorem dX11_closeEmpty_4 : decode cX11_closeEmpty 4 = .ok (.bipush 6, 2) := by decide +kernel
theorem dX11_closeEmpty_6 : decode cX11_closeEmpty 6 = .ok (.laload, 1) := by decide +kernel
theorem dX11_closeEmpty_7 : decode cX11_closeEmpty 7 = .ok (.l2i, 1) := by decide +kernel
theorem dX11_closeEmpty_8 : decode cX11_closeEmpty 8 = .ok (.iconst 1, 1) := by decide +kernel
theorem dX11_closeEmpty_9 : decode cX11_closeEmpty 9 = .ok (.isub, 1) := by decide +kernel
theorem dX11_closeEmpty_10 : decode cX11_closeEmpty 10 = .ok (.istore_n 1, 1) := by decide +kernel
theorem dX11_closeEmpty_11 : decode cX11_closeEmpty 11 = .ok (.iload_n 1, 1) := by decide +kernel
theorem dX11_closeEmpty_12 : decode cX11_closeEmpty 12 = .ok (.ifCond .lt 53, 3) := by decide +kernel
theorem dX11_closeEmpty_65 : decode cX11_closeEmpty 65 = .ok (.return_, 1) := by decide +kernel
theorem dX11_dropEmptyLots_0 : decode cX11_dropEmptyLots 0 = .ok (.aload_n 0, 1) := by decide +kernel
theorem dX11_dropEmptyLots_1 : decode cX11_dropEmptyLots 1 = .ok (.getfield 7, 3) := by decide +kernel
theorem dX11_dropEmptyLots_4 : decode cX11_dropEmptyLots 4 = .ok (.bipush 7, 2) := by decide +kernel
theorem dX11_dropEmptyLots_6 : decode cX11_dropEmptyLots 6 = .ok (.laload, 1) := by decide +kernel
theorem dX11_dropEmptyLots_7 : decode cX11_dropEmptyLots 7 = .ok (.l2i, 1) := by decide +kernel
theorem dX11_dropEmptyLots_8 : decode cX11_dropEmptyLots 8 = .ok (.iconst 1, 1) := by decide +kernel
theorem dX11_dropEmptyLots_9 : decode cX11_dropEmptyLots 9 = .ok (.isub, 1) := by decide +kernel
theorem dX11_dropEmptyLots_10 : decode cX11_dropEmptyLots 10 = .ok (.istore_n 1, 1) := by decide +kernel
theorem dX11_dropEmptyLots_11 : decode cX11_dropEmptyLots 11 = .ok (.iload_n 1, 1) := by decide +kernel
theorem dX11_dropEmptyLots_12 : decode cX11_dropEmptyLots 12 = .ok (.ifCond .lt 33, 3) := by decide +kernel
theorem dX11_dropEmptyLots_45 : decode cX11_dropEmptyLots 45 = .ok (.return_, 1) := by decide +kernel
theorem dX11_unitsBy_0 : decode cX11_unitsBy 0 = .ok (.lconst 0, 1) := by decide +kernel
theorem dX11_unitsBy_1 : decode cX11_unitsBy 1 = .ok (.lstore_n 2, 1) := by decide +kernel
theorem dX11_unitsBy_2 : decode cX11_unitsBy 2 = .ok (.iconst 0, 1) := by decide +kernel
theorem dX11_unitsBy_3 : decode cX11_unitsBy 3 = .ok (.istore 4, 2) := by decide +kernel
theorem dX11_unitsBy_5 : decode cX11_unitsBy 5 = .ok (.iload 4, 2) := by decide +kernel
theorem dX11_unitsBy_7 : decode cX11_unitsBy 7 = .ok (.i2l, 1) := by decide +kernel
theorem dX11_unitsBy_8 : decode cX11_unitsBy 8 = .ok (.aload_n 0, 1) := by decide +kernel
theorem dX11_unitsBy_9 : decode cX11_unitsBy 9 = .ok (.getfield 7, 3) := by decide +kernel
theorem dX11_unitsBy_12 : decode cX11_unitsBy 12 = .ok (.bipush 7, 2) := by decide +kernel
theorem dX11_unitsBy_14 : decode cX11_unitsBy 14 = .ok (.laload, 1) := by decide +kernel
theorem dX11_unitsBy_15 : decode cX11_unitsBy 15 = .ok (.lcmp, 1) := by decide +kernel
theorem dX11_unitsBy_16 : decode cX11_unitsBy 16 = .ok (.ifCond .ge 42, 3) := by decide +kernel
theorem dX11_unitsBy_58 : decode cX11_unitsBy 58 = .ok (.lload_n 2, 1) := by decide +kernel
theorem dX11_unitsBy_59 : decode cX11_unitsBy 59 = .ok (.lreturn, 1) := by decide +kernel
theorem dX11_redeemFrom_0 : decode cX11_redeemFrom 0 = .ok (.lload_n 2, 1) := by decide +kernel
theorem dX11_redeemFrom_1 : decode cX11_redeemFrom 1 = .ok (.lstore 4, 2) := by decide +kernel
theorem dX11_redeemFrom_3 : decode cX11_redeemFrom 3 = .ok (.iconst 0, 1) := by decide +kernel
theorem dX11_redeemFrom_4 : decode cX11_redeemFrom 4 = .ok (.istore 6, 2) := by decide +kernel
theorem dX11_redeemFrom_6 : decode cX11_redeemFrom 6 = .ok (.iload 6, 2) := by decide +kernel
theorem dX11_redeemFrom_8 : decode cX11_redeemFrom 8 = .ok (.i2l, 1) := by decide +kernel
theorem dX11_redeemFrom_9 : decode cX11_redeemFrom 9 = .ok (.aload_n 0, 1) := by decide +kernel
theorem dX11_redeemFrom_10 : decode cX11_redeemFrom 10 = .ok (.getfield 7, 3) := by decide +kernel
theorem dX11_redeemFrom_13 : decode cX11_redeemFrom 13 = .ok (.bipush 7, 2) := by decide +kernel
theorem dX11_redeemFrom_15 : decode cX11_redeemFrom 15 = .ok (.laload, 1) := by decide +kernel
theorem dX11_redeemFrom_16 : decode cX11_redeemFrom 16 = .ok (.lcmp, 1) := by decide +kernel
theorem dX11_redeemFrom_17 : decode cX11_redeemFrom 17 = .ok (.ifCond .ge 72, 3) := by decide +kernel
theorem dX11_redeemFrom_89 : decode cX11_redeemFrom 89 = .ok (.aload_n 0, 1) := by decide +kernel
theorem dX11_redeemFrom_90 : decode cX11_redeemFrom 90 = .ok (.invokevirtual 147, 3) := by decide +kernel
theorem dX11_redeemFrom_93 : decode cX11_redeemFrom 93 = .ok (.aload_n 0, 1) := by decide +kernel
theorem dX11_redeemFrom_94 : decode cX11_redeemFrom 94 = .ok (.invokevirtual 150, 3) := by decide +kernel
theorem dX11_redeemFrom_97 : decode cX11_redeemFrom 97 = .ok (.lload_n 2, 1) := by decide +kernel
theorem dX11_redeemFrom_98 : decode cX11_redeemFrom 98 = .ok (.lload 4, 2) := by decide +kernel
theorem dX11_redeemFrom_100 : decode cX11_redeemFrom 100 = .ok (.lsub, 1) := by decide +kernel
theorem dX11_redeemFrom_101 : decode cX11_redeemFrom 101 = .ok (.lreturn, 1) := by decide +kernel
theorem dX11_worthOf_0 : decode cX11_worthOf 0 = .ok (.aload_n 0, 1) := by decide +kernel
theorem dX11_worthOf_1 : decode cX11_worthOf 1 = .ok (.getfield 7, 3) := by decide +kernel
theorem dX11_worthOf_4 : decode cX11_worthOf 4 = .ok (.aload_n 0, 1) := by decide +kernel
theorem dX11_worthOf_5 : decode cX11_worthOf 5 = .ok (.getfield 19, 3) := by decide +kernel
theorem dX11_worthOf_8 : decode cX11_worthOf 8 = .ok (.invokestatic 76, 3) := by decide +kernel
theorem dX11_worthOf_11 : decode cX11_worthOf 11 = .ok (.aload_n 0, 1) := by decide +kernel
theorem dX11_worthOf_12 : decode cX11_worthOf 12 = .ok (.lconst 0, 1) := by decide +kernel
theorem dX11_worthOf_13 : decode cX11_worthOf 13 = .ok (.putfield 140, 3) := by decide +kernel
theorem dX11_worthOf_16 : decode cX11_worthOf 16 = .ok (.aload_n 0, 1) := by decide +kernel
theorem dX11_worthOf_17 : decode cX11_worthOf 17 = .ok (.iload_n 1, 1) := by decide +kernel
theorem dX11_worthOf_18 : decode cX11_worthOf 18 = .ok (.aload_n 0, 1) := by decide +kernel
theorem dX11_worthOf_19 : decode cX11_worthOf 19 = .ok (.iload_n 1, 1) := by decide +kernel
theorem dX11_worthOf_20 : decode cX11_worthOf 20 = .ok (.invokevirtual 153, 3) := by decide +kernel
theorem dX11_worthOf_23 : decode cX11_worthOf 23 = .ok (.invokevirtual 156, 3) := by decide +kernel
theorem dX11_worthOf_26 : decode cX11_worthOf 26 = .ok (.lstore_n 2, 1) := by decide +kernel
theorem dX11_worthOf_27 : decode cX11_worthOf 27 = .ok (.aload_n 0, 1) := by decide +kernel
theorem dX11_worthOf_28 : decode cX11_worthOf 28 = .ok (.getfield 19, 3) := by decide +kernel
theorem dX11_worthOf_31 : decode cX11_worthOf 31 = .ok (.aload_n 0, 1) := by decide +kernel
theorem dX11_worthOf_32 : decode cX11_worthOf 32 = .ok (.getfield 7, 3) := by decide +kernel
theorem dX11_worthOf_35 : decode cX11_worthOf 35 = .ok (.invokestatic 76, 3) := by decide +kernel
theorem dX11_worthOf_38 : decode cX11_worthOf 38 = .ok (.aload_n 0, 1) := by decide +kernel
theorem dX11_worthOf_39 : decode cX11_worthOf 39 = .ok (.getfield 140, 3) := by decide +kernel
theorem dX11_worthOf_42 : decode cX11_worthOf 42 = .ok (.lreturn, 1) := by decide +kernel
theorem dX11_requested_0 : decode cX11_requested 0 = .ok (.lconst 0, 1) := by decide +kernel
theorem dX11_requested_1 : decode cX11_requested 1 = .ok (.lstore_n 1, 1) := by decide +kernel
theorem dX11_requested_2 : decode cX11_requested 2 = .ok (.iconst 0, 1) := by decide +kernel
theorem dX11_requested_3 : decode cX11_requested 3 = .ok (.istore_n 3, 1) := by decide +kernel
theorem dX11_requested_4 : decode cX11_requested 4 = .ok (.iload_n 3, 1) := by decide +kernel
theorem dX11_requested_5 : decode cX11_requested 5 = .ok (.i2l, 1) := by decide +kernel
theorem dX11_requested_6 : decode cX11_requested 6 = .ok (.aload_n 0, 1) := by decide +kernel
theorem dX11_requested_7 : decode cX11_requested 7 = .ok (.getfield 7, 3) := by decide +kernel
theorem dX11_requested_10 : decode cX11_requested 10 = .ok (.bipush 8, 2) := by decide +kernel
theorem dX11_requested_12 : decode cX11_requested 12 = .ok (.laload, 1) := by decide +kernel
theorem dX11_requested_13 : decode cX11_requested 13 = .ok (.lcmp, 1) := by decide +kernel
theorem dX11_requested_14 : decode cX11_requested 14 = .ok (.ifCond .ge 29, 3) := by decide +kernel
theorem dX11_requested_43 : decode cX11_requested 43 = .ok (.lload_n 1, 1) := by decide +kernel
theorem dX11_requested_44 : decode cX11_requested 44 = .ok (.lreturn, 1) := by decide +kernel
theorem dX11_limit_0 : decode cX11_limit 0 = .ok (.aload_n 0, 1) := by decide +kernel
theorem dX11_limit_1 : decode cX11_limit 1 = .ok (.invokevirtual 169, 3) := by decide +kernel
theorem dX11_limit_4 : decode cX11_limit 4 = .ok (.aload_n 0, 1) := by decide +kernel
theorem dX11_limit_5 : decode cX11_limit 5 = .ok (.getfield 7, 3) := by decide +kernel
theorem dX11_limit_8 : decode cX11_limit 8 = .ok (.iconst 4, 1) := by decide +kernel
theorem dX11_limit_9 : decode cX11_limit 9 = .ok (.laload, 1) := by decide +kernel
theorem dX11_limit_10 : decode cX11_limit 10 = .ok (.lmul, 1) := by decide +kernel
theorem dX11_limit_11 : decode cX11_limit 11 = .ok (.ldc2_w 56, 3) := by decide +kernel
theorem dX11_limit_14 : decode cX11_limit 14 = .ok (.ldiv, 1) := by decide +kernel
theorem dX11_limit_15 : decode cX11_limit 15 = .ok (.lreturn, 1) := by decide +kernel
theorem dX11_redeemAll_0 : decode cX11_redeemAll 0 = .ok (.aload_n 0, 1) := by decide +kernel
theorem dX11_redeemAll_1 : decode cX11_redeemAll 1 = .ok (.invokevirtual 173, 3) := by decide +kernel
theorem dX11_redeemAll_4 : decode cX11_redeemAll 4 = .ok (.lstore_n 1, 1) := by decide +kernel
theorem dX11_redeemAll_5 : decode cX11_redeemAll 5 = .ok (.aload_n 0, 1) := by decide +kernel
theorem dX11_redeemAll_6 : decode cX11_redeemAll 6 = .ok (.invokevirtual 176, 3) := by decide +kernel
theorem dX11_redeemAll_9 : decode cX11_redeemAll 9 = .ok (.lstore_n 3, 1) := by decide +kernel
theorem dX11_redeemAll_10 : decode cX11_redeemAll 10 = .ok (.iconst 0, 1) := by decide +kernel
theorem dX11_redeemAll_11 : decode cX11_redeemAll 11 = .ok (.istore 5, 2) := by decide +kernel
theorem dX11_redeemAll_13 : decode cX11_redeemAll 13 = .ok (.iload 5, 2) := by decide +kernel
theorem dX11_redeemAll_15 : decode cX11_redeemAll 15 = .ok (.i2l, 1) := by decide +kernel
theorem dX11_redeemAll_16 : decode cX11_redeemAll 16 = .ok (.aload_n 0, 1) := by decide +kernel
theorem dX11_redeemAll_17 : decode cX11_redeemAll 17 = .ok (.getfield 7, 3) := by decide +kernel
theorem dX11_redeemAll_20 : decode cX11_redeemAll 20 = .ok (.bipush 8, 2) := by decide +kernel
theorem dX11_redeemAll_22 : decode cX11_redeemAll 22 = .ok (.laload, 1) := by decide +kernel
theorem dX11_redeemAll_23 : decode cX11_redeemAll 23 = .ok (.lcmp, 1) := by decide +kernel
theorem dX11_redeemAll_24 : decode cX11_redeemAll 24 = .ok (.ifCond .ge 146, 3) := by decide +kernel
theorem dX11_redeemAll_170 : decode cX11_redeemAll 170 = .ok (.return_, 1) := by decide +kernel
theorem dX11_subscribeAll_0 : decode cX11_subscribeAll 0 = .ok (.aload_n 0, 1) := by decide +kernel
theorem dX11_subscribeAll_1 : decode cX11_subscribeAll 1 = .ok (.getfield 7, 3) := by decide +kernel
theorem dX11_subscribeAll_4 : decode cX11_subscribeAll 4 = .ok (.iconst 1, 1) := by decide +kernel
theorem dX11_subscribeAll_5 : decode cX11_subscribeAll 5 = .ok (.laload, 1) := by decide +kernel
theorem dX11_subscribeAll_6 : decode cX11_subscribeAll 6 = .ok (.lconst 1, 1) := by decide +kernel
theorem dX11_subscribeAll_7 : decode cX11_subscribeAll 7 = .ok (.lcmp, 1) := by decide +kernel
theorem dX11_subscribeAll_8 : decode cX11_subscribeAll 8 = .ok (.ifCond .ne 22, 3) := by decide +kernel
theorem dX11_subscribeAll_30 : decode cX11_subscribeAll 30 = .ok (.iconst (-1), 1) := by decide +kernel
theorem dX11_subscribeAll_31 : decode cX11_subscribeAll 31 = .ok (.istore_n 1, 1) := by decide +kernel
theorem dX11_subscribeAll_32 : decode cX11_subscribeAll 32 = .ok (.iconst 0, 1) := by decide +kernel
theorem dX11_subscribeAll_33 : decode cX11_subscribeAll 33 = .ok (.istore_n 2, 1) := by decide +kernel
theorem dX11_subscribeAll_34 : decode cX11_subscribeAll 34 = .ok (.iload_n 2, 1) := by decide +kernel
theorem dX11_subscribeAll_35 : decode cX11_subscribeAll 35 = .ok (.i2l, 1) := by decide +kernel
theorem dX11_subscribeAll_36 : decode cX11_subscribeAll 36 = .ok (.aload_n 0, 1) := by decide +kernel
theorem dX11_subscribeAll_37 : decode cX11_subscribeAll 37 = .ok (.getfield 7, 3) := by decide +kernel
theorem dX11_subscribeAll_40 : decode cX11_subscribeAll 40 = .ok (.bipush 8, 2) := by decide +kernel
theorem dX11_subscribeAll_42 : decode cX11_subscribeAll 42 = .ok (.laload, 1) := by decide +kernel
theorem dX11_subscribeAll_43 : decode cX11_subscribeAll 43 = .ok (.lcmp, 1) := by decide +kernel
theorem dX11_subscribeAll_44 : decode cX11_subscribeAll 44 = .ok (.ifCond .ge 44, 3) := by decide +kernel
theorem dX11_subscribeAll_88 : decode cX11_subscribeAll 88 = .ok (.return_, 1) := by decide +kernel
theorem dX11_dealNow_0 : decode cX11_dealNow 0 = .ok (.aload_n 0, 1) := by decide +kernel
theorem dX11_dealNow_1 : decode cX11_dealNow 1 = .ok (.invokevirtual 193, 3) := by decide +kernel
theorem dX11_dealNow_4 : decode cX11_dealNow 4 = .ok (.aload_n 0, 1) := by decide +kernel
theorem dX11_dealNow_5 : decode cX11_dealNow 5 = .ok (.invokevirtual 196, 3) := by decide +kernel
theorem dX11_dealNow_8 : decode cX11_dealNow 8 = .ok (.iconst 0, 1) := by decide +kernel
theorem dX11_dealNow_9 : decode cX11_dealNow 9 = .ok (.istore_n 1, 1) := by decide +kernel
theorem dX11_dealNow_10 : decode cX11_dealNow 10 = .ok (.aload_n 0, 1) := by decide +kernel
theorem dX11_dealNow_11 : decode cX11_dealNow 11 = .ok (.getfield 7, 3) := by decide +kernel
theorem dX11_dealNow_14 : decode cX11_dealNow 14 = .ok (.bipush 8, 2) := by decide +kernel
theorem dX11_dealNow_16 : decode cX11_dealNow 16 = .ok (.laload, 1) := by decide +kernel
theorem dX11_dealNow_17 : decode cX11_dealNow 17 = .ok (.l2i, 1) := by decide +kernel
theorem dX11_dealNow_18 : decode cX11_dealNow 18 = .ok (.iconst 1, 1) := by decide +kernel
theorem dX11_dealNow_19 : decode cX11_dealNow 19 = .ok (.isub, 1) := by decide +kernel
theorem dX11_dealNow_20 : decode cX11_dealNow 20 = .ok (.istore_n 2, 1) := by decide +kernel
theorem dX11_dealNow_21 : decode cX11_dealNow 21 = .ok (.iload_n 2, 1) := by decide +kernel
theorem dX11_dealNow_22 : decode cX11_dealNow 22 = .ok (.ifCond .lt 29, 3) := by decide +kernel
theorem dX11_dealNow_51 : decode cX11_dealNow 51 = .ok (.iload_n 1, 1) := by decide +kernel
theorem dX11_dealNow_52 : decode cX11_dealNow 52 = .ok (.ireturn, 1) := by decide +kernel
theorem dX11_deal_0 : decode cX11_deal 0 = .ok (.aload_n 0, 1) := by decide +kernel
theorem dX11_deal_1 : decode cX11_deal 1 = .ok (.iconst 0, 1) := by decide +kernel
theorem dX11_deal_2 : decode cX11_deal 2 = .ok (.putfield 58, 3) := by decide +kernel
theorem dX11_deal_5 : decode cX11_deal 5 = .ok (.aload_n 0, 1) := by decide +kernel
theorem dX11_deal_6 : decode cX11_deal 6 = .ok (.invokevirtual 202, 3) := by decide +kernel
theorem dX11_deal_9 : decode cX11_deal 9 = .ok (.aload_n 0, 1) := by decide +kernel
theorem dX11_deal_10 : decode cX11_deal 10 = .ok (.invokevirtual 205, 3) := by decide +kernel
theorem dX11_deal_13 : decode cX11_deal 13 = .ok (.ireturn, 1) := by decide +kernel
theorem dX11_ask_0 : decode cX11_ask 0 = .ok (.aload_n 1, 1) := by decide +kernel
theorem dX11_ask_1 : decode cX11_ask 1 = .ok (.bipush 8, 2) := by decide +kernel
theorem dX11_ask_3 : decode cX11_ask 3 = .ok (.laload, 1) := by decide +kernel
theorem dX11_ask_4 : decode cX11_ask 4 = .ok (.l2i, 1) := by decide +kernel
theorem dX11_ask_5 : decode cX11_ask 5 = .ok (.invokestatic 160, 3) := by decide +kernel
theorem dX11_ask_8 : decode cX11_ask 8 = .ok (.istore 7, 2) := by decide +kernel
theorem dX11_ask_10 : decode cX11_ask 10 = .ok (.aload_n 1, 1) := by decide +kernel
theorem dX11_ask_11 : decode cX11_ask 11 = .ok (.iload 7, 2) := by decide +kernel
theorem dX11_ask_13 : decode cX11_ask 13 = .ok (.iconst 0, 1) := by decide +kernel
theorem dX11_ask_14 : decode cX11_ask 14 = .ok (.iadd, 1) := by decide +kernel
theorem dX11_ask_15 : decode cX11_ask 15 = .ok (.iload_n 2, 1) := by decide +kernel
theorem dX11_ask_16 : decode cX11_ask 16 = .ok (.i2l, 1) := by decide +kernel
theorem dX11_ask_17 : decode cX11_ask 17 = .ok (.lastore, 1) := by decide +kernel
theorem dX11_ask_18 : decode cX11_ask 18 = .ok (.aload_n 1, 1) := by decide +kernel
theorem dX11_ask_19 : decode cX11_ask 19 = .ok (.iload 7, 2) := by decide +kernel
theorem dX11_ask_21 : decode cX11_ask 21 = .ok (.iconst 1, 1) := by decide +kernel
theorem dX11_ask_22 : decode cX11_ask 22 = .ok (.iadd, 1) := by decide +kernel
theorem dX11_ask_23 : decode cX11_ask 23 = .ok (.lload_n 3, 1) := by decide +kernel
theorem dX11_ask_24 : decode cX11_ask 24 = .ok (.lastore, 1) := by decide +kernel
theorem dX11_ask_25 : decode cX11_ask 25 = .ok (.aload_n 1, 1) := by decide +kernel
theorem dX11_ask_26 : decode cX11_ask 26 = .ok (.iload 7, 2) := by decide +kernel
theorem dX11_ask_28 : decode cX11_ask 28 = .ok (.iconst 2, 1) := by decide +kernel
theorem dX11_ask_29 : decode cX11_ask 29 = .ok (.iadd, 1) := by decide +kernel
theorem dX11_ask_30 : decode cX11_ask 30 = .ok (.lload 5, 2) := by decide +kernel
theorem dX11_ask_32 : decode cX11_ask 32 = .ok (.lastore, 1) := by decide +kernel
theorem dX11_ask_33 : decode cX11_ask 33 = .ok (.aload_n 1, 1) := by decide +kernel
theorem dX11_ask_34 : decode cX11_ask 34 = .ok (.iload 7, 2) := by decide +kernel
theorem dX11_ask_36 : decode cX11_ask 36 = .ok (.iconst 3, 1) := by decide +kernel
theorem dX11_ask_37 : decode cX11_ask 37 = .ok (.iadd, 1) := by decide +kernel
theorem dX11_ask_38 : decode cX11_ask 38 = .ok (.aload_n 1, 1) := by decide +kernel
theorem dX11_ask_39 : decode cX11_ask 39 = .ok (.iconst 5, 1) := by decide +kernel
theorem dX11_ask_40 : decode cX11_ask 40 = .ok (.laload, 1) := by decide +kernel
theorem dX11_ask_41 : decode cX11_ask 41 = .ok (.lastore, 1) := by decide +kernel
theorem dX11_ask_42 : decode cX11_ask 42 = .ok (.aload_n 1, 1) := by decide +kernel
theorem dX11_ask_43 : decode cX11_ask 43 = .ok (.bipush 8, 2) := by decide +kernel
theorem dX11_ask_45 : decode cX11_ask 45 = .ok (.dup2, 1) := by decide +kernel
theorem dX11_ask_46 : decode cX11_ask 46 = .ok (.laload, 1) := by decide +kernel
theorem dX11_ask_47 : decode cX11_ask 47 = .ok (.lconst 1, 1) := by decide +kernel
theorem dX11_ask_48 : decode cX11_ask 48 = .ok (.ladd, 1) := by decide +kernel
theorem dX11_ask_49 : decode cX11_ask 49 = .ok (.lastore, 1) := by decide +kernel
theorem dX11_ask_50 : decode cX11_ask 50 = .ok (.return_, 1) := by decide +kernel
theorem dX11_isAmount_0 : decode cX11_isAmount 0 = .ok (.iload_n 0, 1) := by decide +kernel
theorem dX11_isAmount_1 : decode cX11_isAmount 1 = .ok (.i2l, 1) := by decide +kernel
theorem dX11_isAmount_2 : decode cX11_isAmount 2 = .ok (.lconst 1, 1) := by decide +kernel
theorem dX11_isAmount_3 : decode cX11_isAmount 3 = .ok (.ldc2_w 208, 3) := by decide +kernel
theorem dX11_isAmount_6 : decode cX11_isAmount 6 = .ok (.invokestatic 61, 3) := by decide +kernel
theorem dX11_isAmount_9 : decode cX11_isAmount 9 = .ok (.ireturn, 1) := by decide +kernel
theorem dX11_isUnits_0 : decode cX11_isUnits 0 = .ok (.iload_n 0, 1) := by decide +kernel
theorem dX11_isUnits_1 : decode cX11_isUnits 1 = .ok (.i2l, 1) := by decide +kernel
theorem dX11_isUnits_2 : decode cX11_isUnits 2 = .ok (.lconst 1, 1) := by decide +kernel
theorem dX11_isUnits_3 : decode cX11_isUnits 3 = .ok (.ldc2_w 210, 3) := by decide +kernel
theorem dX11_isUnits_6 : decode cX11_isUnits 6 = .ok (.invokestatic 61, 3) := by decide +kernel
theorem dX11_isUnits_9 : decode cX11_isUnits 9 = .ok (.ireturn, 1) := by decide +kernel
theorem dX11_isFull_0 : decode cX11_isFull 0 = .ok (.aload_n 0, 1) := by decide +kernel
theorem dX11_isFull_1 : decode cX11_isFull 1 = .ok (.getfield 7, 3) := by decide +kernel
theorem dX11_isFull_4 : decode cX11_isFull 4 = .ok (.bipush 8, 2) := by decide +kernel
theorem dX11_isFull_6 : decode cX11_isFull 6 = .ok (.laload, 1) := by decide +kernel
theorem dX11_isFull_7 : decode cX11_isFull 7 = .ok (.ldc2_w 212, 3) := by decide +kernel
theorem dX11_isFull_10 : decode cX11_isFull 10 = .ok (.lcmp, 1) := by decide +kernel
theorem dX11_isFull_11 : decode cX11_isFull 11 = .ok (.ifCond .ne 7, 3) := by decide +kernel
theorem dX11_isFull_18 : decode cX11_isFull 18 = .ok (.iconst 0, 1) := by decide +kernel
theorem dX11_isFull_19 : decode cX11_isFull 19 = .ok (.ireturn, 1) := by decide +kernel
theorem dX11_subscribe_0 : decode cX11_subscribe 0 = .ok (.aload_n 0, 1) := by decide +kernel
theorem dX11_subscribe_1 : decode cX11_subscribe 1 = .ok (.iload_n 1, 1) := by decide +kernel
theorem dX11_subscribe_2 : decode cX11_subscribe 2 = .ok (.invokevirtual 214, 3) := by decide +kernel
theorem dX11_subscribe_5 : decode cX11_subscribe 5 = .ok (.ifCond .ne 35, 3) := by decide +kernel
theorem dX11_subscribe_8 : decode cX11_subscribe 8 = .ok (.aload_n 0, 1) := by decide +kernel
theorem dX11_subscribe_9 : decode cX11_subscribe 9 = .ok (.iload_n 2, 1) := by decide +kernel
theorem dX11_subscribe_10 : decode cX11_subscribe 10 = .ok (.invokestatic 217, 3) := by decide +kernel
theorem dX11_subscribe_13 : decode cX11_subscribe 13 = .ok (.ifCond .ne 7, 3) := by decide +kernel
theorem dX11_subscribe_16 : decode cX11_subscribe 16 = .ok (.iconst 1, 1) := by decide +kernel
theorem dX11_subscribe_17 : decode cX11_subscribe 17 = .ok (.goto 4, 3) := by decide +kernel
theorem dX11_subscribe_20 : decode cX11_subscribe 20 = .ok (.iconst 0, 1) := by decide +kernel
theorem dX11_subscribe_21 : decode cX11_subscribe 21 = .ok (.iconst 2, 1) := by decide +kernel
theorem dX11_subscribe_22 : decode cX11_subscribe 22 = .ok (.invokevirtual 69, 3) := by decide +kernel
theorem dX11_subscribe_25 : decode cX11_subscribe 25 = .ok (.ifCond .ne 15, 3) := by decide +kernel
theorem dX11_subscribe_28 : decode cX11_subscribe 28 = .ok (.aload_n 0, 1) := by decide +kernel
theorem dX11_subscribe_29 : decode cX11_subscribe 29 = .ok (.aload_n 0, 1) := by decide +kernel
theorem dX11_subscribe_30 : decode cX11_subscribe 30 = .ok (.invokevirtual 220, 3) := by decide +kernel
theorem dX11_subscribe_33 : decode cX11_subscribe 33 = .ok (.iconst 3, 1) := by decide +kernel
theorem dX11_subscribe_34 : decode cX11_subscribe 34 = .ok (.invokevirtual 69, 3) := by decide +kernel
theorem dX11_subscribe_37 : decode cX11_subscribe 37 = .ok (.ifCond .eq 5, 3) := by decide +kernel
theorem dX11_subscribe_40 : decode cX11_subscribe 40 = .ok (.iconst 0, 1) := by decide +kernel
theorem dX11_subscribe_41 : decode cX11_subscribe 41 = .ok (.ireturn, 1) := by decide +kernel
theorem dX11_subscribe_42 : decode cX11_subscribe 42 = .ok (.aload_n 0, 1) := by decide +kernel
theorem dX11_subscribe_43 : decode cX11_subscribe 43 = .ok (.invokevirtual 202, 3) := by decide +kernel
theorem dX11_subscribe_46 : decode cX11_subscribe 46 = .ok (.aload_n 0, 1) := by decide +kernel
theorem dX11_subscribe_47 : decode cX11_subscribe 47 = .ok (.aload_n 0, 1) := by decide +kernel
theorem dX11_subscribe_48 : decode cX11_subscribe 48 = .ok (.getfield 7, 3) := by decide +kernel
theorem dX11_subscribe_51 : decode cX11_subscribe 51 = .ok (.iload_n 1, 1) := by decide +kernel
theorem dX11_subscribe_52 : decode cX11_subscribe 52 = .ok (.lconst 0, 1) := by decide +kernel
theorem dX11_subscribe_53 : decode cX11_subscribe 53 = .ok (.iload_n 2, 1) := by decide +kernel
theorem dX11_subscribe_54 : decode cX11_subscribe 54 = .ok (.i2l, 1) := by decide +kernel
theorem dX11_subscribe_55 : decode cX11_subscribe 55 = .ok (.invokevirtual 224, 3) := by decide +kernel
theorem dX11_subscribe_58 : decode cX11_subscribe 58 = .ok (.aload_n 0, 1) := by decide +kernel
theorem dX11_subscribe_59 : decode cX11_subscribe 59 = .ok (.getfield 7, 3) := by decide +kernel
theorem dX11_subscribe_62 : decode cX11_subscribe 62 = .ok (.bipush 8, 2) := by decide +kernel
theorem dX11_subscribe_64 : decode cX11_subscribe 64 = .ok (.laload, 1) := by decide +kernel
theorem dX11_subscribe_65 : decode cX11_subscribe 65 = .ok (.l2i, 1) := by decide +kernel
theorem dX11_subscribe_66 : decode cX11_subscribe 66 = .ok (.iconst 1, 1) := by decide +kernel
theorem dX11_subscribe_67 : decode cX11_subscribe 67 = .ok (.isub, 1) := by decide +kernel
theorem dX11_subscribe_68 : decode cX11_subscribe 68 = .ok (.ireturn, 1) := by decide +kernel
theorem dX11_waitingOf_0 : decode cX11_waitingOf 0 = .ok (.lconst 0, 1) := by decide +kernel
theorem dX11_waitingOf_1 : decode cX11_waitingOf 1 = .ok (.lstore_n 2, 1) := by decide +kernel
theorem dX11_waitingOf_2 : decode cX11_waitingOf 2 = .ok (.iconst 0, 1) := by decide +kernel
theorem dX11_waitingOf_3 : decode cX11_waitingOf 3 = .ok (.istore 4, 2) := by decide +kernel
theorem dX11_waitingOf_5 : decode cX11_waitingOf 5 = .ok (.iload 4, 2) := by decide +kernel
theorem dX11_waitingOf_7 : decode cX11_waitingOf 7 = .ok (.i2l, 1) := by decide +kernel
theorem dX11_waitingOf_8 : decode cX11_waitingOf 8 = .ok (.aload_n 0, 1) := by decide +kernel
theorem dX11_waitingOf_9 : decode cX11_waitingOf 9 = .ok (.getfield 7, 3) := by decide +kernel
theorem dX11_waitingOf_12 : decode cX11_waitingOf 12 = .ok (.bipush 8, 2) := by decide +kernel
theorem dX11_waitingOf_14 : decode cX11_waitingOf 14 = .ok (.laload, 1) := by decide +kernel
theorem dX11_waitingOf_15 : decode cX11_waitingOf 15 = .ok (.lcmp, 1) := by decide +kernel
theorem dX11_waitingOf_16 : decode cX11_waitingOf 16 = .ok (.ifCond .ge 51, 3) := by decide +kernel
theorem dX11_waitingOf_67 : decode cX11_waitingOf 67 = .ok (.lload_n 2, 1) := by decide +kernel
theorem dX11_waitingOf_68 : decode cX11_waitingOf 68 = .ok (.lreturn, 1) := by decide +kernel
theorem dX11_canRedeem_0 : decode cX11_canRedeem 0 = .ok (.aload_n 0, 1) := by decide +kernel
theorem dX11_canRedeem_1 : decode cX11_canRedeem 1 = .ok (.invokevirtual 220, 3) := by decide +kernel
theorem dX11_canRedeem_4 : decode cX11_canRedeem 4 = .ok (.ifCond .ne 24, 3) := by decide +kernel
theorem dX11_canRedeem_7 : decode cX11_canRedeem 7 = .ok (.aload_n 0, 1) := by decide +kernel
theorem dX11_canRedeem_8 : decode cX11_canRedeem 8 = .ok (.iload_n 1, 1) := by decide +kernel
theorem dX11_canRedeem_9 : decode cX11_canRedeem 9 = .ok (.invokevirtual 228, 3) := by decide +kernel
theorem dX11_canRedeem_12 : decode cX11_canRedeem 12 = .ok (.iload_n 2, 1) := by decide +kernel
theorem dX11_canRedeem_13 : decode cX11_canRedeem 13 = .ok (.i2l, 1) := by decide +kernel
theorem dX11_canRedeem_14 : decode cX11_canRedeem 14 = .ok (.ladd, 1) := by decide +kernel
theorem dX11_canRedeem_15 : decode cX11_canRedeem 15 = .ok (.aload_n 0, 1) := by decide +kernel
theorem dX11_canRedeem_16 : decode cX11_canRedeem 16 = .ok (.iload_n 1, 1) := by decide +kernel
theorem dX11_canRedeem_17 : decode cX11_canRedeem 17 = .ok (.invokevirtual 153, 3) := by decide +kernel
theorem dX11_canRedeem_20 : decode cX11_canRedeem 20 = .ok (.lcmp, 1) := by decide +kernel
theorem dX11_canRedeem_21 : decode cX11_canRedeem 21 = .ok (.ifCond .gt 7, 3) := by decide +kernel
theorem dX11_canRedeem_24 : decode cX11_canRedeem 24 = .ok (.iconst 1, 1) := by decide +kernel
theorem dX11_canRedeem_25 : decode cX11_canRedeem 25 = .ok (.goto 4, 3) := by decide +kernel
theorem dX11_canRedeem_28 : decode cX11_canRedeem 28 = .ok (.iconst 0, 1) := by decide +kernel
theorem dX11_canRedeem_29 : decode cX11_canRedeem 29 = .ok (.ireturn, 1) := by decide +kernel
theorem dX11_redeem_0 : decode cX11_redeem 0 = .ok (.aload_n 0, 1) := by decide +kernel
theorem dX11_redeem_1 : decode cX11_redeem 1 = .ok (.iload_n 1, 1) := by decide +kernel
theorem dX11_redeem_2 : decode cX11_redeem 2 = .ok (.invokevirtual 214, 3) := by decide +kernel
theorem dX11_redeem_5 : decode cX11_redeem 5 = .ok (.ifCond .ne 45, 3) := by decide +kernel
theorem dX11_redeem_8 : decode cX11_redeem 8 = .ok (.aload_n 0, 1) := by decide +kernel
theorem dX11_redeem_9 : decode cX11_redeem 9 = .ok (.iload_n 2, 1) := by decide +kernel
theorem dX11_redeem_10 : decode cX11_redeem 10 = .ok (.invokestatic 231, 3) := by decide +kernel
theorem dX11_redeem_13 : decode cX11_redeem 13 = .ok (.ifCond .ne 7, 3) := by decide +kernel
theorem dX11_redeem_16 : decode cX11_redeem 16 = .ok (.iconst 1, 1) := by decide +kernel
theorem dX11_redeem_17 : decode cX11_redeem 17 = .ok (.goto 4, 3) := by decide +kernel
theorem dX11_redeem_20 : decode cX11_redeem 20 = .ok (.iconst 0, 1) := by decide +kernel
theorem dX11_redeem_21 : decode cX11_redeem 21 = .ok (.iconst 2, 1) := by decide +kernel
theorem dX11_redeem_22 : decode cX11_redeem 22 = .ok (.invokevirtual 69, 3) := by decide +kernel
theorem dX11_redeem_25 : decode cX11_redeem 25 = .ok (.ifCond .ne 25, 3) := by decide +kernel
theorem dX11_redeem_28 : decode cX11_redeem 28 = .ok (.aload_n 0, 1) := by decide +kernel
theorem dX11_redeem_29 : decode cX11_redeem 29 = .ok (.aload_n 0, 1) := by decide +kernel
theorem dX11_redeem_30 : decode cX11_redeem 30 = .ok (.iload_n 1, 1) := by decide +kernel
theorem dX11_redeem_31 : decode cX11_redeem 31 = .ok (.iload_n 2, 1) := by decide +kernel
theorem dX11_redeem_32 : decode cX11_redeem 32 = .ok (.invokevirtual 234, 3) := by decide +kernel
theorem dX11_redeem_35 : decode cX11_redeem 35 = .ok (.ifCond .ne 7, 3) := by decide +kernel
theorem dX11_redeem_38 : decode cX11_redeem 38 = .ok (.iconst 1, 1) := by decide +kernel
theorem dX11_redeem_39 : decode cX11_redeem 39 = .ok (.goto 4, 3) := by decide +kernel
theorem dX11_redeem_42 : decode cX11_redeem 42 = .ok (.iconst 0, 1) := by decide +kernel
theorem dX11_redeem_43 : decode cX11_redeem 43 = .ok (.iconst 3, 1) := by decide +kernel
theorem dX11_redeem_44 : decode cX11_redeem 44 = .ok (.invokevirtual 69, 3) := by decide +kernel
theorem dX11_redeem_47 : decode cX11_redeem 47 = .ok (.ifCond .eq 5, 3) := by decide +kernel
theorem dX11_redeem_50 : decode cX11_redeem 50 = .ok (.iconst 0, 1) := by decide +kernel
theorem dX11_redeem_51 : decode cX11_redeem 51 = .ok (.ireturn, 1) := by decide +kernel
theorem dX11_redeem_52 : decode cX11_redeem 52 = .ok (.aload_n 0, 1) := by decide +kernel
theorem dX11_redeem_53 : decode cX11_redeem 53 = .ok (.invokevirtual 202, 3) := by decide +kernel
theorem dX11_redeem_56 : decode cX11_redeem 56 = .ok (.aload_n 0, 1) := by decide +kernel
theorem dX11_redeem_57 : decode cX11_redeem 57 = .ok (.aload_n 0, 1) := by decide +kernel
theorem dX11_redeem_58 : decode cX11_redeem 58 = .ok (.getfield 7, 3) := by decide +kernel
theorem dX11_redeem_61 : decode cX11_redeem 61 = .ok (.iload_n 1, 1) := by decide +kernel
theorem dX11_redeem_62 : decode cX11_redeem 62 = .ok (.lconst 1, 1) := by decide +kernel
theorem dX11_redeem_63 : decode cX11_redeem 63 = .ok (.iload_n 2, 1) := by decide +kernel
theorem dX11_redeem_64 : decode cX11_redeem 64 = .ok (.i2l, 1) := by decide +kernel
theorem dX11_redeem_65 : decode cX11_redeem 65 = .ok (.invokevirtual 224, 3) := by decide +kernel
theorem dX11_redeem_68 : decode cX11_redeem 68 = .ok (.aload_n 0, 1) := by decide +kernel
theorem dX11_redeem_69 : decode cX11_redeem 69 = .ok (.getfield 7, 3) := by decide +kernel
theorem dX11_redeem_72 : decode cX11_redeem 72 = .ok (.bipush 8, 2) := by decide +kernel
theorem dX11_redeem_74 : decode cX11_redeem 74 = .ok (.laload, 1) := by decide +kernel
theorem dX11_redeem_75 : decode cX11_redeem 75 = .ok (.l2i, 1) := by decide +kernel
theorem dX11_redeem_76 : decode cX11_redeem 76 = .ok (.iconst 1, 1) := by decide +kernel
theorem dX11_redeem_77 : decode cX11_redeem 77 = .ok (.isub, 1) := by decide +kernel
theorem dX11_redeem_78 : decode cX11_redeem 78 = .ok (.ireturn, 1) := by decide +kernel
theorem dX11_withdraw_0 : decode cX11_withdraw 0 = .ok (.aload_n 0, 1) := by decide +kernel
theorem dX11_withdraw_1 : decode cX11_withdraw 1 = .ok (.iload_n 1, 1) := by decide +kernel
theorem dX11_withdraw_2 : decode cX11_withdraw 2 = .ok (.invokevirtual 238, 3) := by decide +kernel
theorem dX11_withdraw_5 : decode cX11_withdraw 5 = .ok (.ifCond .eq 5, 3) := by decide +kernel
theorem dX11_withdraw_8 : decode cX11_withdraw 8 = .ok (.lconst 0, 1) := by decide +kernel
theorem dX11_withdraw_9 : decode cX11_withdraw 9 = .ok (.lreturn, 1) := by decide +kernel
theorem dX11_gain_0 : decode cX11_gain 0 = .ok (.lconst 0, 1) := by decide +kernel
theorem dX11_gain_1 : decode cX11_gain 1 = .ok (.lstore_n 2, 1) := by decide +kernel
theorem dX11_gain_2 : decode cX11_gain 2 = .ok (.iconst 0, 1) := by decide +kernel
theorem dX11_gain_3 : decode cX11_gain 3 = .ok (.istore 4, 2) := by decide +kernel
theorem dX11_gain_5 : decode cX11_gain 5 = .ok (.iload 4, 2) := by decide +kernel
theorem dX11_gain_7 : decode cX11_gain 7 = .ok (.i2l, 1) := by decide +kernel
theorem dX11_gain_8 : decode cX11_gain 8 = .ok (.aload_n 0, 1) := by decide +kernel
theorem dX11_gain_9 : decode cX11_gain 9 = .ok (.getfield 7, 3) := by decide +kernel
theorem dX11_gain_12 : decode cX11_gain 12 = .ok (.bipush 6, 2) := by decide +kernel
theorem dX11_gain_14 : decode cX11_gain 14 = .ok (.laload, 1) := by decide +kernel
theorem dX11_gain_15 : decode cX11_gain 15 = .ok (.lcmp, 1) := by decide +kernel
theorem dX11_gain_16 : decode cX11_gain 16 = .ok (.ifCond .ge 53, 3) := by decide +kernel
theorem dX11_gain_69 : decode cX11_gain 69 = .ok (.aload_n 0, 1) := by decide +kernel
theorem dX11_gain_70 : decode cX11_gain 70 = .ok (.getfield 7, 3) := by decide +kernel
theorem dX11_gain_73 : decode cX11_gain 73 = .ok (.bipush 14, 2) := by decide +kernel
theorem dX11_gain_75 : decode cX11_gain 75 = .ok (.dup2, 1) := by decide +kernel
theorem dX11_gain_76 : decode cX11_gain 76 = .ok (.laload, 1) := by decide +kernel
theorem dX11_gain_77 : decode cX11_gain 77 = .ok (.lload_n 2, 1) := by decide +kernel
theorem dX11_gain_78 : decode cX11_gain 78 = .ok (.ladd, 1) := by decide +kernel
theorem dX11_gain_79 : decode cX11_gain 79 = .ok (.lastore, 1) := by decide +kernel
theorem dX11_gain_80 : decode cX11_gain 80 = .ok (.lload_n 2, 1) := by decide +kernel
theorem dX11_gain_81 : decode cX11_gain 81 = .ok (.lreturn, 1) := by decide +kernel
theorem dX11_isTooMuch_0 : decode cX11_isTooMuch 0 = .ok (.iconst 0, 1) := by decide +kernel
theorem dX11_isTooMuch_1 : decode cX11_isTooMuch 1 = .ok (.istore_n 2, 1) := by decide +kernel
theorem dX11_isTooMuch_2 : decode cX11_isTooMuch 2 = .ok (.iload_n 2, 1) := by decide +kernel
theorem dX11_isTooMuch_3 : decode cX11_isTooMuch 3 = .ok (.i2l, 1) := by decide +kernel
theorem dX11_isTooMuch_4 : decode cX11_isTooMuch 4 = .ok (.aload_n 0, 1) := by decide +kernel
theorem dX11_isTooMuch_5 : decode cX11_isTooMuch 5 = .ok (.getfield 7, 3) := by decide +kernel
theorem dX11_isTooMuch_8 : decode cX11_isTooMuch 8 = .ok (.bipush 6, 2) := by decide +kernel
theorem dX11_isTooMuch_10 : decode cX11_isTooMuch 10 = .ok (.laload, 1) := by decide +kernel
theorem dX11_isTooMuch_11 : decode cX11_isTooMuch 11 = .ok (.lcmp, 1) := by decide +kernel
theorem dX11_isTooMuch_12 : decode cX11_isTooMuch 12 = .ok (.ifCond .ge 77, 3) := by decide +kernel
theorem dX11_isTooMuch_89 : decode cX11_isTooMuch 89 = .ok (.iconst 0, 1) := by decide +kernel
theorem dX11_isTooMuch_90 : decode cX11_isTooMuch 90 = .ok (.ireturn, 1) := by decide +kernel
theorem dX11_isRate_0 : decode cX11_isRate 0 = .ok (.iload_n 0, 1) := by decide +kernel
theorem dX11_isRate_1 : decode cX11_isRate 1 = .ok (.i2l, 1) := by decide +kernel
theorem dX11_isRate_2 : decode cX11_isRate 2 = .ok (.ldc2_w 247, 3) := by decide +kernel
theorem dX11_isRate_5 : decode cX11_isRate 5 = .ok (.ldc2_w 249, 3) := by decide +kernel
theorem dX11_isRate_8 : decode cX11_isRate 8 = .ok (.invokestatic 61, 3) := by decide +kernel
theorem dX11_isRate_11 : decode cX11_isRate 11 = .ok (.ireturn, 1) := by decide +kernel
theorem dX11_earn_0 : decode cX11_earn 0 = .ok (.aload_n 0, 1) := by decide +kernel
theorem dX11_earn_1 : decode cX11_earn 1 = .ok (.iload_n 1, 1) := by decide +kernel
theorem dX11_earn_2 : decode cX11_earn 2 = .ok (.invokestatic 251, 3) := by decide +kernel
theorem dX11_earn_5 : decode cX11_earn 5 = .ok (.ifCond .ne 7, 3) := by decide +kernel
theorem dX11_earn_8 : decode cX11_earn 8 = .ok (.iconst 1, 1) := by decide +kernel
theorem dX11_earn_9 : decode cX11_earn 9 = .ok (.goto 4, 3) := by decide +kernel
theorem dX11_earn_12 : decode cX11_earn 12 = .ok (.iconst 0, 1) := by decide +kernel
theorem dX11_earn_13 : decode cX11_earn 13 = .ok (.iconst 1, 1) := by decide +kernel
theorem dX11_earn_14 : decode cX11_earn 14 = .ok (.invokevirtual 69, 3) := by decide +kernel
theorem dX11_earn_17 : decode cX11_earn 17 = .ok (.ifCond .ne 16, 3) := by decide +kernel
theorem dX11_earn_20 : decode cX11_earn 20 = .ok (.aload_n 0, 1) := by decide +kernel
theorem dX11_earn_21 : decode cX11_earn 21 = .ok (.aload_n 0, 1) := by decide +kernel
theorem dX11_earn_22 : decode cX11_earn 22 = .ok (.iload_n 1, 1) := by decide +kernel
theorem dX11_earn_23 : decode cX11_earn 23 = .ok (.invokevirtual 254, 3) := by decide +kernel
theorem dX11_earn_26 : decode cX11_earn 26 = .ok (.iconst 2, 1) := by decide +kernel
theorem dX11_earn_27 : decode cX11_earn 27 = .ok (.invokevirtual 69, 3) := by decide +kernel
theorem dX11_earn_30 : decode cX11_earn 30 = .ok (.ifCond .eq 5, 3) := by decide +kernel
theorem dX11_earn_33 : decode cX11_earn 33 = .ok (.lconst 0, 1) := by decide +kernel
theorem dX11_earn_34 : decode cX11_earn 34 = .ok (.lreturn, 1) := by decide +kernel
theorem dX11_earn_35 : decode cX11_earn 35 = .ok (.aload_n 0, 1) := by decide +kernel
theorem dX11_earn_36 : decode cX11_earn 36 = .ok (.invokevirtual 202, 3) := by decide +kernel
theorem dX11_earn_39 : decode cX11_earn 39 = .ok (.aload_n 0, 1) := by decide +kernel
theorem dX11_earn_40 : decode cX11_earn 40 = .ok (.iload_n 1, 1) := by decide +kernel
theorem dX11_earn_41 : decode cX11_earn 41 = .ok (.invokevirtual 257, 3) := by decide +kernel
theorem dX11_earn_44 : decode cX11_earn 44 = .ok (.lreturn, 1) := by decide +kernel
theorem dX11_goDays_0 : decode cX11_goDays 0 = .ok (.lconst 0, 1) := by decide +kernel
theorem dX11_goDays_1 : decode cX11_goDays 1 = .ok (.lstore_n 2, 1) := by decide +kernel
theorem dX11_goDays_2 : decode cX11_goDays 2 = .ok (.iconst 0, 1) := by decide +kernel
theorem dX11_goDays_3 : decode cX11_goDays 3 = .ok (.istore 4, 2) := by decide +kernel
theorem dX11_goDays_5 : decode cX11_goDays 5 = .ok (.iload 4, 2) := by decide +kernel
theorem dX11_goDays_7 : decode cX11_goDays 7 = .ok (.iload_n 1, 1) := by decide +kernel
theorem dX11_goDays_8 : decode cX11_goDays 8 = .ok (.if_icmp .ge 89, 3) := by decide +kernel
theorem dX11_goDays_11 : decode cX11_goDays 11 = .ok (.iconst 0, 1) := by decide +kernel
theorem dX11_goDays_12 : decode cX11_goDays 12 = .ok (.istore 5, 2) := by decide +kernel
theorem dX11_goDays_14 : decode cX11_goDays 14 = .ok (.iload 5, 2) := by decide +kernel
theorem dX11_goDays_16 : decode cX11_goDays 16 = .ok (.i2l, 1) := by decide +kernel
theorem dX11_goDays_17 : decode cX11_goDays 17 = .ok (.aload_n 0, 1) := by decide +kernel
theorem dX11_goDays_18 : decode cX11_goDays 18 = .ok (.getfield 7, 3) := by decide +kernel
theorem dX11_goDays_21 : decode cX11_goDays 21 = .ok (.bipush 6, 2) := by decide +kernel
theorem dX11_goDays_23 : decode cX11_goDays 23 = .ok (.laload, 1) := by decide +kernel
theorem dX11_goDays_24 : decode cX11_goDays 24 = .ok (.lcmp, 1) := by decide +kernel
theorem dX11_goDays_25 : decode cX11_goDays 25 = .ok (.ifCond .ge 56, 3) := by decide +kernel
theorem dX11_goDays_81 : decode cX11_goDays 81 = .ok (.aload_n 0, 1) := by decide +kernel
theorem dX11_goDays_82 : decode cX11_goDays 82 = .ok (.getfield 7, 3) := by decide +kernel
theorem dX11_goDays_85 : decode cX11_goDays 85 = .ok (.iconst 5, 1) := by decide +kernel
theorem dX11_goDays_86 : decode cX11_goDays 86 = .ok (.dup2, 1) := by decide +kernel
theorem dX11_goDays_87 : decode cX11_goDays 87 = .ok (.laload, 1) := by decide +kernel
theorem dX11_goDays_88 : decode cX11_goDays 88 = .ok (.lconst 1, 1) := by decide +kernel
theorem dX11_goDays_89 : decode cX11_goDays 89 = .ok (.ladd, 1) := by decide +kernel
theorem dX11_goDays_90 : decode cX11_goDays 90 = .ok (.lastore, 1) := by decide +kernel
theorem dX11_goDays_91 : decode cX11_goDays 91 = .ok (.iinc 4 1, 3) := by decide +kernel
theorem dX11_goDays_94 : decode cX11_goDays 94 = .ok (.goto (-89), 3) := by decide +kernel
theorem dX11_goDays_97 : decode cX11_goDays 97 = .ok (.aload_n 0, 1) := by decide +kernel
theorem dX11_goDays_98 : decode cX11_goDays 98 = .ok (.getfield 7, 3) := by decide +kernel
theorem dX11_goDays_101 : decode cX11_goDays 101 = .ok (.bipush 15, 2) := by decide +kernel
theorem dX11_goDays_103 : decode cX11_goDays 103 = .ok (.dup2, 1) := by decide +kernel
theorem dX11_goDays_104 : decode cX11_goDays 104 = .ok (.laload, 1) := by decide +kernel
theorem dX11_goDays_105 : decode cX11_goDays 105 = .ok (.lload_n 2, 1) := by decide +kernel
theorem dX11_goDays_106 : decode cX11_goDays 106 = .ok (.ladd, 1) := by decide +kernel
theorem dX11_goDays_107 : decode cX11_goDays 107 = .ok (.lastore, 1) := by decide +kernel
theorem dX11_goDays_108 : decode cX11_goDays 108 = .ok (.aload_n 0, 1) := by decide +kernel
theorem dX11_goDays_109 : decode cX11_goDays 109 = .ok (.getfield 7, 3) := by decide +kernel
theorem dX11_goDays_112 : decode cX11_goDays 112 = .ok (.bipush 10, 2) := by decide +kernel
theorem dX11_goDays_114 : decode cX11_goDays 114 = .ok (.dup2, 1) := by decide +kernel
theorem dX11_goDays_115 : decode cX11_goDays 115 = .ok (.laload, 1) := by decide +kernel
theorem dX11_goDays_116 : decode cX11_goDays 116 = .ok (.lload_n 2, 1) := by decide +kernel
theorem dX11_goDays_117 : decode cX11_goDays 117 = .ok (.ladd, 1) := by decide +kernel
theorem dX11_goDays_118 : decode cX11_goDays 118 = .ok (.lastore, 1) := by decide +kernel
theorem dX11_goDays_119 : decode cX11_goDays 119 = .ok (.lload_n 2, 1) := by decide +kernel
theorem dX11_goDays_120 : decode cX11_goDays 120 = .ok (.lreturn, 1) := by decide +kernel
theorem dX11_passDays_0 : decode cX11_passDays 0 = .ok (.aload_n 0, 1) := by decide +kernel
theorem dX11_passDays_1 : decode cX11_passDays 1 = .ok (.iload_n 1, 1) := by decide +kernel
theorem dX11_passDays_2 : decode cX11_passDays 2 = .ok (.i2l, 1) := by decide +kernel
theorem dX11_passDays_3 : decode cX11_passDays 3 = .ok (.lconst 1, 1) := by decide +kernel
theorem dX11_passDays_4 : decode cX11_passDays 4 = .ok (.ldc2_w 262, 3) := by decide +kernel
theorem dX11_passDays_7 : decode cX11_passDays 7 = .ok (.invokestatic 61, 3) := by decide +kernel
theorem dX11_passDays_10 : decode cX11_passDays 10 = .ok (.ifCond .ne 7, 3) := by decide +kernel
theorem dX11_passDays_13 : decode cX11_passDays 13 = .ok (.iconst 1, 1) := by decide +kernel
theorem dX11_passDays_14 : decode cX11_passDays 14 = .ok (.goto 4, 3) := by decide +kernel
theorem dX11_passDays_17 : decode cX11_passDays 17 = .ok (.iconst 0, 1) := by decide +kernel
theorem dX11_passDays_18 : decode cX11_passDays 18 = .ok (.iconst 1, 1) := by decide +kernel
theorem dX11_passDays_19 : decode cX11_passDays 19 = .ok (.invokevirtual 69, 3) := by decide +kernel
theorem dX11_passDays_22 : decode cX11_passDays 22 = .ok (.ifCond .eq 5, 3) := by decide +kernel
theorem dX11_passDays_25 : decode cX11_passDays 25 = .ok (.lconst 0, 1) := by decide +kernel
theorem dX11_passDays_26 : decode cX11_passDays 26 = .ok (.lreturn, 1) := by decide +kernel
theorem dX11_passDays_27 : decode cX11_passDays 27 = .ok (.aload_n 0, 1) := by decide +kernel
theorem dX11_passDays_28 : decode cX11_passDays 28 = .ok (.invokevirtual 202, 3) := by decide +kernel
theorem dX11_passDays_31 : decode cX11_passDays 31 = .ok (.aload_n 0, 1) := by decide +kernel
theorem dX11_passDays_32 : decode cX11_passDays 32 = .ok (.iload_n 1, 1) := by decide +kernel
theorem dX11_passDays_33 : decode cX11_passDays 33 = .ok (.invokevirtual 264, 3) := by decide +kernel
theorem dX11_passDays_36 : decode cX11_passDays 36 = .ok (.lreturn, 1) := by decide +kernel
theorem dX11_crystallizeAll_0 : decode cX11_crystallizeAll 0 = .ok (.aload_n 0, 1) := by decide +kernel
theorem dX11_crystallizeAll_1 : decode cX11_crystallizeAll 1 = .ok (.getfield 7, 3) := by decide +kernel
theorem dX11_crystallizeAll_4 : decode cX11_crystallizeAll 4 = .ok (.bipush 10, 2) := by decide +kernel
theorem dX11_crystallizeAll_6 : decode cX11_crystallizeAll 6 = .ok (.laload, 1) := by decide +kernel
theorem dX11_crystallizeAll_7 : decode cX11_crystallizeAll 7 = .ok (.lstore_n 1, 1) := by decide +kernel
theorem dX11_crystallizeAll_8 : decode cX11_crystallizeAll 8 = .ok (.iconst 0, 1) := by decide +kernel
theorem dX11_crystallizeAll_9 : decode cX11_crystallizeAll 9 = .ok (.istore_n 3, 1) := by decide +kernel
theorem dX11_crystallizeAll_10 : decode cX11_crystallizeAll 10 = .ok (.iload_n 3, 1) := by decide +kernel
theorem dX11_crystallizeAll_11 : decode cX11_crystallizeAll 11 = .ok (.i2l, 1) := by decide +kernel
theorem dX11_crystallizeAll_12 : decode cX11_crystallizeAll 12 = .ok (.aload_n 0, 1) := by decide +kernel
theorem dX11_crystallizeAll_13 : decode cX11_crystallizeAll 13 = .ok (.getfield 7, 3) := by decide +kernel
theorem dX11_crystallizeAll_16 : decode cX11_crystallizeAll 16 = .ok (.bipush 6, 2) := by decide +kernel
theorem dX11_crystallizeAll_18 : decode cX11_crystallizeAll 18 = .ok (.laload, 1) := by decide +kernel
theorem dX11_crystallizeAll_19 : decode cX11_crystallizeAll 19 = .ok (.lcmp, 1) := by decide +kernel
theorem dX11_crystallizeAll_20 : decode cX11_crystallizeAll 20 = .ok (.ifCond .ge 17, 3) := by decide +kernel
theorem dX11_crystallizeAll_37 : decode cX11_crystallizeAll 37 = .ok (.aload_n 0, 1) := by decide +kernel
theorem dX11_crystallizeAll_38 : decode cX11_crystallizeAll 38 = .ok (.invokevirtual 147, 3) := by decide +kernel
theorem dX11_crystallizeAll_41 : decode cX11_crystallizeAll 41 = .ok (.aload_n 0, 1) := by decide +kernel
theorem dX11_crystallizeAll_42 : decode cX11_crystallizeAll 42 = .ok (.invokevirtual 150, 3) := by decide +kernel
theorem dX11_crystallizeAll_45 : decode cX11_crystallizeAll 45 = .ok (.aload_n 0, 1) := by decide +kernel
theorem dX11_crystallizeAll_46 : decode cX11_crystallizeAll 46 = .ok (.getfield 7, 3) := by decide +kernel
theorem dX11_crystallizeAll_49 : decode cX11_crystallizeAll 49 = .ok (.bipush 10, 2) := by decide +kernel
theorem dX11_crystallizeAll_51 : decode cX11_crystallizeAll 51 = .ok (.laload, 1) := by decide +kernel
theorem dX11_crystallizeAll_52 : decode cX11_crystallizeAll 52 = .ok (.lload_n 1, 1) := by decide +kernel
theorem dX11_crystallizeAll_53 : decode cX11_crystallizeAll 53 = .ok (.lsub, 1) := by decide +kernel
theorem dX11_crystallizeAll_54 : decode cX11_crystallizeAll 54 = .ok (.lreturn, 1) := by decide +kernel
theorem dX11_crystallize_0 : decode cX11_crystallize 0 = .ok (.aload_n 0, 1) := by decide +kernel
theorem dX11_crystallize_1 : decode cX11_crystallize 1 = .ok (.iconst 0, 1) := by decide +kernel
theorem dX11_crystallize_2 : decode cX11_crystallize 2 = .ok (.putfield 58, 3) := by decide +kernel
theorem dX11_crystallize_5 : decode cX11_crystallize 5 = .ok (.aload_n 0, 1) := by decide +kernel
theorem dX11_crystallize_6 : decode cX11_crystallize 6 = .ok (.invokevirtual 202, 3) := by decide +kernel
theorem dX11_crystallize_9 : decode cX11_crystallize 9 = .ok (.aload_n 0, 1) := by decide +kernel
theorem dX11_crystallize_10 : decode cX11_crystallize 10 = .ok (.invokevirtual 281, 3) := by decide +kernel
theorem dX11_crystallize_13 : decode cX11_crystallize 13 = .ok (.lreturn, 1) := by decide +kernel
theorem dX11_mergeAll_0 : decode cX11_mergeAll 0 = .ok (.aload_n 0, 1) := by decide +kernel
theorem dX11_mergeAll_1 : decode cX11_mergeAll 1 = .ok (.getfield 7, 3) := by decide +kernel
theorem dX11_mergeAll_4 : decode cX11_mergeAll 4 = .ok (.iconst 1, 1) := by decide +kernel
theorem dX11_mergeAll_5 : decode cX11_mergeAll 5 = .ok (.laload, 1) := by decide +kernel
theorem dX11_mergeAll_6 : decode cX11_mergeAll 6 = .ok (.lconst 1, 1) := by decide +kernel
theorem dX11_mergeAll_7 : decode cX11_mergeAll 7 = .ok (.lcmp, 1) := by decide +kernel
theorem dX11_mergeAll_8 : decode cX11_mergeAll 8 = .ok (.ifCond .eq 15, 3) := by decide +kernel
theorem dX11_mergeAll_11 : decode cX11_mergeAll 11 = .ok (.aload_n 0, 1) := by decide +kernel
theorem dX11_mergeAll_12 : decode cX11_mergeAll 12 = .ok (.getfield 7, 3) := by decide +kernel
theorem dX11_mergeAll_15 : decode cX11_mergeAll 15 = .ok (.bipush 6, 2) := by decide +kernel
theorem dX11_mergeAll_17 : decode cX11_mergeAll 17 = .ok (.laload, 1) := by decide +kernel
theorem dX11_mergeAll_18 : decode cX11_mergeAll 18 = .ok (.lconst 0, 1) := by decide +kernel
theorem dX11_mergeAll_19 : decode cX11_mergeAll 19 = .ok (.lcmp, 1) := by decide +kernel
theorem dX11_mergeAll_20 : decode cX11_mergeAll 20 = .ok (.ifCond .ne 5, 3) := by decide +kernel
theorem dX11_mergeAll_23 : decode cX11_mergeAll 23 = .ok (.iconst 0, 1) := by decide +kernel
theorem dX11_mergeAll_24 : decode cX11_mergeAll 24 = .ok (.ireturn, 1) := by decide +kernel
theorem dX11_merge_0 : decode cX11_merge 0 = .ok (.aload_n 0, 1) := by decide +kernel
theorem dX11_merge_1 : decode cX11_merge 1 = .ok (.iconst 0, 1) := by decide +kernel
theorem dX11_merge_2 : decode cX11_merge 2 = .ok (.putfield 58, 3) := by decide +kernel
theorem dX11_merge_5 : decode cX11_merge 5 = .ok (.aload_n 0, 1) := by decide +kernel
theorem dX11_merge_6 : decode cX11_merge 6 = .ok (.invokevirtual 202, 3) := by decide +kernel
theorem dX11_merge_9 : decode cX11_merge 9 = .ok (.aload_n 0, 1) := by decide +kernel
theorem dX11_merge_10 : decode cX11_merge 10 = .ok (.invokevirtual 287, 3) := by decide +kernel
theorem dX11_merge_13 : decode cX11_merge 13 = .ok (.ireturn, 1) := by decide +kernel
theorem dX11_cannotMove_0 : decode cX11_cannotMove 0 = .ok (.aload_n 0, 1) := by decide +kernel
theorem dX11_cannotMove_1 : decode cX11_cannotMove 1 = .ok (.iload_n 1, 1) := by decide +kernel
theorem dX11_cannotMove_2 : decode cX11_cannotMove 2 = .ok (.invokevirtual 153, 3) := by decide +kernel
theorem dX11_cannotMove_5 : decode cX11_cannotMove 5 = .ok (.iload_n 2, 1) := by decide +kernel
theorem dX11_cannotMove_6 : decode cX11_cannotMove 6 = .ok (.i2l, 1) := by decide +kernel
theorem dX11_cannotMove_7 : decode cX11_cannotMove 7 = .ok (.aload_n 0, 1) := by decide +kernel
theorem dX11_cannotMove_8 : decode cX11_cannotMove 8 = .ok (.iload_n 1, 1) := by decide +kernel
theorem dX11_cannotMove_9 : decode cX11_cannotMove 9 = .ok (.invokevirtual 228, 3) := by decide +kernel
theorem dX11_cannotMove_12 : decode cX11_cannotMove 12 = .ok (.ladd, 1) := by decide +kernel
theorem dX11_cannotMove_13 : decode cX11_cannotMove 13 = .ok (.lcmp, 1) := by decide +kernel
theorem dX11_cannotMove_14 : decode cX11_cannotMove 14 = .ok (.ifCond .lt 27, 3) := by decide +kernel
theorem dX11_cannotMove_17 : decode cX11_cannotMove 17 = .ok (.aload_n 0, 1) := by decide +kernel
theorem dX11_cannotMove_18 : decode cX11_cannotMove 18 = .ok (.getfield 7, 3) := by decide +kernel
theorem dX11_cannotMove_21 : decode cX11_cannotMove 21 = .ok (.bipush 7, 2) := by decide +kernel
theorem dX11_cannotMove_23 : decode cX11_cannotMove 23 = .ok (.laload, 1) := by decide +kernel
theorem dX11_cannotMove_24 : decode cX11_cannotMove 24 = .ok (.ldc2_w 181, 3) := by decide +kernel
theorem dX11_cannotMove_27 : decode cX11_cannotMove 27 = .ok (.lcmp, 1) := by decide +kernel
theorem dX11_cannotMove_28 : decode cX11_cannotMove 28 = .ok (.ifCond .ne 17, 3) := by decide +kernel
theorem dX11_cannotMove_41 : decode cX11_cannotMove 41 = .ok (.iconst 1, 1) := by decide +kernel
theorem dX11_cannotMove_42 : decode cX11_cannotMove 42 = .ok (.goto 4, 3) := by decide +kernel
theorem dX11_cannotMove_45 : decode cX11_cannotMove 45 = .ok (.iconst 0, 1) := by decide +kernel
theorem dX11_cannotMove_46 : decode cX11_cannotMove 46 = .ok (.ireturn, 1) := by decide +kernel
theorem dX11_transfer_0 : decode cX11_transfer 0 = .ok (.aload_n 0, 1) := by decide +kernel
theorem dX11_transfer_1 : decode cX11_transfer 1 = .ok (.aload_n 0, 1) := by decide +kernel
theorem dX11_transfer_2 : decode cX11_transfer 2 = .ok (.iload_n 1, 1) := by decide +kernel
theorem dX11_transfer_3 : decode cX11_transfer 3 = .ok (.invokevirtual 65, 3) := by decide +kernel
theorem dX11_transfer_6 : decode cX11_transfer 6 = .ok (.ifCond .eq 11, 3) := by decide +kernel
theorem dX11_transfer_9 : decode cX11_transfer 9 = .ok (.aload_n 0, 1) := by decide +kernel
theorem dX11_transfer_10 : decode cX11_transfer 10 = .ok (.iload_n 2, 1) := by decide +kernel
theorem dX11_transfer_11 : decode cX11_transfer 11 = .ok (.invokevirtual 65, 3) := by decide +kernel
theorem dX11_transfer_14 : decode cX11_transfer 14 = .ok (.ifCond .ne 7, 3) := by decide +kernel
theorem dX11_transfer_17 : decode cX11_transfer 17 = .ok (.iconst 1, 1) := by decide +kernel
theorem dX11_transfer_18 : decode cX11_transfer 18 = .ok (.goto 4, 3) := by decide +kernel
theorem dX11_transfer_21 : decode cX11_transfer 21 = .ok (.iconst 0, 1) := by decide +kernel
theorem dX11_transfer_22 : decode cX11_transfer 22 = .ok (.iconst 1, 1) := by decide +kernel
theorem dX11_transfer_23 : decode cX11_transfer 23 = .ok (.invokevirtual 69, 3) := by decide +kernel
theorem dX11_transfer_26 : decode cX11_transfer 26 = .ok (.ifCond .ne 42, 3) := by decide +kernel
theorem dX11_transfer_29 : decode cX11_transfer 29 = .ok (.aload_n 0, 1) := by decide +kernel
theorem dX11_transfer_30 : decode cX11_transfer 30 = .ok (.iload_n 1, 1) := by decide +kernel
theorem dX11_transfer_31 : decode cX11_transfer 31 = .ok (.iload_n 2, 1) := by decide +kernel
theorem dX11_transfer_32 : decode cX11_transfer 32 = .ok (.if_icmp .eq 10, 3) := by decide +kernel
theorem dX11_transfer_35 : decode cX11_transfer 35 = .ok (.iload_n 3, 1) := by decide +kernel
theorem dX11_transfer_36 : decode cX11_transfer 36 = .ok (.invokestatic 231, 3) := by decide +kernel
theorem dX11_transfer_39 : decode cX11_transfer 39 = .ok (.ifCond .ne 7, 3) := by decide +kernel
theorem dX11_transfer_42 : decode cX11_transfer 42 = .ok (.iconst 1, 1) := by decide +kernel
theorem dX11_transfer_43 : decode cX11_transfer 43 = .ok (.goto 4, 3) := by decide +kernel
theorem dX11_transfer_46 : decode cX11_transfer 46 = .ok (.iconst 0, 1) := by decide +kernel
theorem dX11_transfer_47 : decode cX11_transfer 47 = .ok (.iconst 2, 1) := by decide +kernel
theorem dX11_transfer_48 : decode cX11_transfer 48 = .ok (.invokevirtual 69, 3) := by decide +kernel
theorem dX11_transfer_51 : decode cX11_transfer 51 = .ok (.ifCond .ne 17, 3) := by decide +kernel
theorem dX11_transfer_54 : decode cX11_transfer 54 = .ok (.aload_n 0, 1) := by decide +kernel
theorem dX11_transfer_55 : decode cX11_transfer 55 = .ok (.aload_n 0, 1) := by decide +kernel
theorem dX11_transfer_56 : decode cX11_transfer 56 = .ok (.iload_n 1, 1) := by decide +kernel
theorem dX11_transfer_57 : decode cX11_transfer 57 = .ok (.iload_n 3, 1) := by decide +kernel
theorem dX11_transfer_58 : decode cX11_transfer 58 = .ok (.invokevirtual 294, 3) := by decide +kernel
theorem dX11_transfer_61 : decode cX11_transfer 61 = .ok (.iconst 3, 1) := by decide +kernel
theorem dX11_transfer_62 : decode cX11_transfer 62 = .ok (.invokevirtual 69, 3) := by decide +kernel
theorem dX11_transfer_65 : decode cX11_transfer 65 = .ok (.ifCond .eq 5, 3) := by decide +kernel
theorem dX11_transfer_68 : decode cX11_transfer 68 = .ok (.lconst 0, 1) := by decide +kernel
theorem dX11_transfer_69 : decode cX11_transfer 69 = .ok (.lreturn, 1) := by decide +kernel
theorem dX11_transfer_70 : decode cX11_transfer 70 = .ok (.aload_n 0, 1) := by decide +kernel
theorem dX11_transfer_71 : decode cX11_transfer 71 = .ok (.invokevirtual 202, 3) := by decide +kernel
theorem dX11_transfer_74 : decode cX11_transfer 74 = .ok (.iload_n 3, 1) := by decide +kernel
theorem dX11_transfer_75 : decode cX11_transfer 75 = .ok (.i2l, 1) := by decide +kernel
theorem dX11_transfer_76 : decode cX11_transfer 76 = .ok (.lstore 4, 2) := by decide +kernel
theorem dX11_transfer_78 : decode cX11_transfer 78 = .ok (.aload_n 0, 1) := by decide +kernel
theorem dX11_transfer_79 : decode cX11_transfer 79 = .ok (.getfield 7, 3) := by decide +kernel
theorem dX11_transfer_82 : decode cX11_transfer 82 = .ok (.bipush 7, 2) := by decide +kernel
theorem dX11_transfer_84 : decode cX11_transfer 84 = .ok (.laload, 1) := by decide +kernel
theorem dX11_transfer_85 : decode cX11_transfer 85 = .ok (.l2i, 1) := by decide +kernel
theorem dX11_transfer_86 : decode cX11_transfer 86 = .ok (.istore 6, 2) := by decide +kernel
theorem dX11_transfer_88 : decode cX11_transfer 88 = .ok (.iconst 0, 1) := by decide +kernel
theorem dX11_transfer_89 : decode cX11_transfer 89 = .ok (.istore 7, 2) := by decide +kernel
theorem dX11_transfer_91 : decode cX11_transfer 91 = .ok (.iload 7, 2) := by decide +kernel
theorem dX11_transfer_93 : decode cX11_transfer 93 = .ok (.iload 6, 2) := by decide +kernel
theorem dX11_transfer_95 : decode cX11_transfer 95 = .ok (.if_icmp .ge 102, 3) := by decide +kernel
theorem dX11_transfer_197 : decode cX11_transfer 197 = .ok (.aload_n 0, 1) := by decide +kernel
theorem dX11_transfer_198 : decode cX11_transfer 198 = .ok (.iload_n 1, 1) := by decide +kernel
theorem dX11_transfer_199 : decode cX11_transfer 199 = .ok (.invokevirtual 153, 3) := by decide +kernel
theorem dX11_transfer_202 : decode cX11_transfer 202 = .ok (.lreturn, 1) := by decide +kernel
theorem dX11_setGate_0 : decode cX11_setGate 0 = .ok (.aload_n 0, 1) := by decide +kernel
theorem dX11_setGate_1 : decode cX11_setGate 1 = .ok (.iload_n 1, 1) := by decide +kernel
theorem dX11_setGate_2 : decode cX11_setGate 2 = .ok (.i2l, 1) := by decide +kernel
theorem dX11_setGate_3 : decode cX11_setGate 3 = .ok (.lconst 1, 1) := by decide +kernel
theorem dX11_setGate_4 : decode cX11_setGate 4 = .ok (.ldc2_w 56, 3) := by decide +kernel
theorem dX11_setGate_7 : decode cX11_setGate 7 = .ok (.invokestatic 61, 3) := by decide +kernel
theorem dX11_setGate_10 : decode cX11_setGate 10 = .ok (.ifCond .ne 7, 3) := by decide +kernel
theorem dX11_setGate_13 : decode cX11_setGate 13 = .ok (.iconst 1, 1) := by decide +kernel
theorem dX11_setGate_14 : decode cX11_setGate 14 = .ok (.goto 4, 3) := by decide +kernel
theorem dX11_setGate_17 : decode cX11_setGate 17 = .ok (.iconst 0, 1) := by decide +kernel
theorem dX11_setGate_18 : decode cX11_setGate 18 = .ok (.iconst 1, 1) := by decide +kernel
theorem dX11_setGate_19 : decode cX11_setGate 19 = .ok (.invokevirtual 69, 3) := by decide +kernel
theorem dX11_setGate_22 : decode cX11_setGate 22 = .ok (.ifCond .eq 5, 3) := by decide +kernel
theorem dX11_setGate_25 : decode cX11_setGate 25 = .ok (.iconst 0, 1) := by decide +kernel
theorem dX11_setGate_26 : decode cX11_setGate 26 = .ok (.ireturn, 1) := by decide +kernel
theorem dX11_setGate_27 : decode cX11_setGate 27 = .ok (.aload_n 0, 1) := by decide +kernel
theorem dX11_setGate_28 : decode cX11_setGate 28 = .ok (.invokevirtual 202, 3) := by decide +kernel
theorem dX11_setGate_31 : decode cX11_setGate 31 = .ok (.aload_n 0, 1) := by decide +kernel
theorem dX11_setGate_32 : decode cX11_setGate 32 = .ok (.getfield 7, 3) := by decide +kernel
theorem dX11_setGate_35 : decode cX11_setGate 35 = .ok (.iconst 4, 1) := by decide +kernel
theorem dX11_setGate_36 : decode cX11_setGate 36 = .ok (.laload, 1) := by decide +kernel
theorem dX11_setGate_37 : decode cX11_setGate 37 = .ok (.l2i, 1) := by decide +kernel
theorem dX11_setGate_38 : decode cX11_setGate 38 = .ok (.istore_n 2, 1) := by decide +kernel
theorem dX11_setGate_39 : decode cX11_setGate 39 = .ok (.aload_n 0, 1) := by decide +kernel
theorem dX11_setGate_40 : decode cX11_setGate 40 = .ok (.getfield 7, 3) := by decide +kernel
theorem dX11_setGate_43 : decode cX11_setGate 43 = .ok (.iconst 4, 1) := by decide +kernel
theorem dX11_setGate_44 : decode cX11_setGate 44 = .ok (.iload_n 1, 1) := by decide +kernel
theorem dX11_setGate_45 : decode cX11_setGate 45 = .ok (.i2l, 1) := by decide +kernel
theorem dX11_setGate_46 : decode cX11_setGate 46 = .ok (.lastore, 1) := by decide +kernel
theorem dX11_setGate_47 : decode cX11_setGate 47 = .ok (.iload_n 2, 1) := by decide +kernel
theorem dX11_setGate_48 : decode cX11_setGate 48 = .ok (.ireturn, 1) := by decide +kernel
theorem dX11_bring_0 : decode cX11_bring 0 = .ok (.iconst 3, 1) := by decide +kernel
theorem dX11_bring_1 : decode cX11_bring 1 = .ok (.istore_n 2, 1) := by decide +kernel
theorem dX11_bring_2 : decode cX11_bring 2 = .ok (.iload_n 2, 1) := by decide +kernel
theorem dX11_bring_3 : decode cX11_bring 3 = .ok (.ifCond .lt 32, 3) := by decide +kernel
theorem dX11_bring_6 : decode cX11_bring 6 = .ok (.aload_n 0, 1) := by decide +kernel
theorem dX11_bring_7 : decode cX11_bring 7 = .ok (.getfield 35, 3) := by decide +kernel
theorem dX11_bring_10 : decode cX11_bring 10 = .ok (.aload_n 0, 1) := by decide +kernel
theorem dX11_bring_11 : decode cX11_bring 11 = .ok (.dup, 1) := by decide +kernel
theorem dX11_bring_12 : decode cX11_bring 12 = .ok (.getfield 301, 3) := by decide +kernel
theorem dX11_bring_15 : decode cX11_bring 15 = .ok (.dup_x1, 1) := by decide +kernel
theorem dX11_bring_16 : decode cX11_bring 16 = .ok (.iconst 1, 1) := by decide +kernel
theorem dX11_bring_17 : decode cX11_bring 17 = .ok (.iadd, 1) := by decide +kernel
theorem dX11_bring_18 : decode cX11_bring 18 = .ok (.putfield 301, 3) := by decide +kernel
theorem dX11_bring_21 : decode cX11_bring 21 = .ok (.iload_n 1, 1) := by decide +kernel
theorem dX11_bring_22 : decode cX11_bring 22 = .ok (.bipush 8, 2) := by decide +kernel
theorem dX11_bring_24 : decode cX11_bring 24 = .ok (.iload_n 2, 1) := by decide +kernel
theorem dX11_bring_25 : decode cX11_bring 25 = .ok (.imul, 1) := by decide +kernel
theorem dX11_bring_26 : decode cX11_bring 26 = .ok (.ishr, 1) := by decide +kernel
theorem dX11_bring_27 : decode cX11_bring 27 = .ok (.i2b, 1) := by decide +kernel
theorem dX11_bring_28 : decode cX11_bring 28 = .ok (.bastore, 1) := by decide +kernel
theorem dX11_bring_29 : decode cX11_bring 29 = .ok (.iinc 2 (-1), 3) := by decide +kernel
theorem dX11_bring_32 : decode cX11_bring 32 = .ok (.goto (-30), 3) := by decide +kernel
theorem dX11_bring_35 : decode cX11_bring 35 = .ok (.return_, 1) := by decide +kernel
theorem dX11_appendText_0 : decode cX11_appendText 0 = .ok (.aload_n 0, 1) := by decide +kernel
theorem dX11_appendText_1 : decode cX11_appendText 1 = .ok (.getfield 301, 3) := by decide +kernel
theorem dX11_appendText_4 : decode cX11_appendText 4 = .ok (.bipush 20, 2) := by decide +kernel
theorem dX11_appendText_6 : decode cX11_appendText 6 = .ok (.iadd, 1) := by decide +kernel
theorem dX11_appendText_7 : decode cX11_appendText 7 = .ok (.sipush 400, 3) := by decide +kernel
theorem dX11_appendText_10 : decode cX11_appendText 10 = .ok (.if_icmp .le 9, 3) := by decide +kernel
theorem dX11_appendText_19 : decode cX11_appendText 19 = .ok (.aload_n 0, 1) := by decide +kernel
theorem dX11_appendText_20 : decode cX11_appendText 20 = .ok (.iconst 0, 1) := by decide +kernel
theorem dX11_appendText_21 : decode cX11_appendText 21 = .ok (.putfield 58, 3) := by decide +kernel
theorem dX11_appendText_24 : decode cX11_appendText 24 = .ok (.aload_n 0, 1) := by decide +kernel
theorem dX11_appendText_25 : decode cX11_appendText 25 = .ok (.iload_n 1, 1) := by decide +kernel
theorem dX11_appendText_26 : decode cX11_appendText 26 = .ok (.invokevirtual 304, 3) := by decide +kernel
theorem dX11_appendText_29 : decode cX11_appendText 29 = .ok (.aload_n 0, 1) := by decide +kernel
theorem dX11_appendText_30 : decode cX11_appendText 30 = .ok (.iload_n 2, 1) := by decide +kernel
theorem dX11_appendText_31 : decode cX11_appendText 31 = .ok (.invokevirtual 304, 3) := by decide +kernel
theorem dX11_appendText_34 : decode cX11_appendText 34 = .ok (.aload_n 0, 1) := by decide +kernel
theorem dX11_appendText_35 : decode cX11_appendText 35 = .ok (.iload_n 3, 1) := by decide +kernel
theorem dX11_appendText_36 : decode cX11_appendText 36 = .ok (.invokevirtual 304, 3) := by decide +kernel
theorem dX11_appendText_39 : decode cX11_appendText 39 = .ok (.aload_n 0, 1) := by decide +kernel
theorem dX11_appendText_40 : decode cX11_appendText 40 = .ok (.iload 4, 2) := by decide +kernel
theorem dX11_appendText_42 : decode cX11_appendText 42 = .ok (.invokevirtual 304, 3) := by decide +kernel
theorem dX11_appendText_45 : decode cX11_appendText 45 = .ok (.aload_n 0, 1) := by decide +kernel
theorem dX11_appendText_46 : decode cX11_appendText 46 = .ok (.iload 5, 2) := by decide +kernel
theorem dX11_appendText_48 : decode cX11_appendText 48 = .ok (.invokevirtual 304, 3) := by decide +kernel
theorem dX11_appendText_51 : decode cX11_appendText 51 = .ok (.aload_n 0, 1) := by decide +kernel
theorem dX11_appendText_52 : decode cX11_appendText 52 = .ok (.getfield 301, 3) := by decide +kernel
theorem dX11_appendText_55 : decode cX11_appendText 55 = .ok (.ireturn, 1) := by decide +kernel
theorem dX11_truncateText_0 : decode cX11_truncateText 0 = .ok (.iload_n 1, 1) := by decide +kernel
theorem dX11_truncateText_1 : decode cX11_truncateText 1 = .ok (.i2l, 1) := by decide +kernel
theorem dX11_truncateText_2 : decode cX11_truncateText 2 = .ok (.lconst 0, 1) := by decide +kernel
theorem dX11_truncateText_3 : decode cX11_truncateText 3 = .ok (.aload_n 0, 1) := by decide +kernel
theorem dX11_truncateText_4 : decode cX11_truncateText 4 = .ok (.getfield 301, 3) := by decide +kernel
theorem dX11_truncateText_7 : decode cX11_truncateText 7 = .ok (.i2l, 1) := by decide +kernel
theorem dX11_truncateText_8 : decode cX11_truncateText 8 = .ok (.invokestatic 61, 3) := by decide +kernel
theorem dX11_truncateText_11 : decode cX11_truncateText 11 = .ok (.ifCond .ne 9, 3) := by decide +kernel
theorem dX11_truncateText_14 : decode cX11_truncateText 14 = .ok (.aload_n 0, 1) := by decide +kernel
theorem dX11_truncateText_15 : decode cX11_truncateText 15 = .ok (.iconst 1, 1) := by decide +kernel
theorem dX11_truncateText_16 : decode cX11_truncateText 16 = .ok (.invokevirtual 83, 3) := by decide +kernel
theorem dX11_truncateText_19 : decode cX11_truncateText 19 = .ok (.ireturn, 1) := by decide +kernel
theorem dX11_truncateText_20 : decode cX11_truncateText 20 = .ok (.aload_n 0, 1) := by decide +kernel
theorem dX11_truncateText_21 : decode cX11_truncateText 21 = .ok (.iconst 0, 1) := by decide +kernel
theorem dX11_truncateText_22 : decode cX11_truncateText 22 = .ok (.putfield 58, 3) := by decide +kernel
theorem dX11_truncateText_25 : decode cX11_truncateText 25 = .ok (.aload_n 0, 1) := by decide +kernel
theorem dX11_truncateText_26 : decode cX11_truncateText 26 = .ok (.iload_n 1, 1) := by decide +kernel
theorem dX11_truncateText_27 : decode cX11_truncateText 27 = .ok (.putfield 301, 3) := by decide +kernel
theorem dX11_truncateText_30 : decode cX11_truncateText 30 = .ok (.iload_n 1, 1) := by decide +kernel
theorem dX11_truncateText_31 : decode cX11_truncateText 31 = .ok (.ireturn, 1) := by decide +kernel
theorem dX11_byteAt_0 : decode cX11_byteAt 0 = .ok (.iload_n 1, 1) := by decide +kernel
theorem dX11_byteAt_1 : decode cX11_byteAt 1 = .ok (.aload_n 0, 1) := by decide +kernel
theorem dX11_byteAt_2 : decode cX11_byteAt 2 = .ok (.getfield 307, 3) := by decide +kernel
theorem dX11_byteAt_5 : decode cX11_byteAt 5 = .ok (.if_icmp .ge 16, 3) := by decide +kernel
theorem dX11_byteAt_21 : decode cX11_byteAt 21 = .ok (.iconst (-1), 1) := by decide +kernel
theorem dX11_byteAt_22 : decode cX11_byteAt 22 = .ok (.ireturn, 1) := by decide +kernel
theorem dX11_next_0 : decode cX11_next 0 = .ok (.aload_n 0, 1) := by decide +kernel
theorem dX11_next_1 : decode cX11_next 1 = .ok (.aload_n 0, 1) := by decide +kernel
theorem dX11_next_2 : decode cX11_next 2 = .ok (.getfield 310, 3) := by decide +kernel
theorem dX11_next_5 : decode cX11_next 5 = .ok (.putfield 313, 3) := by decide +kernel
theorem dX11_next_8 : decode cX11_next 8 = .ok (.aload_n 0, 1) := by decide +kernel
theorem dX11_next_9 : decode cX11_next 9 = .ok (.aload_n 0, 1) := by decide +kernel
theorem dX11_next_10 : decode cX11_next 10 = .ok (.getfield 313, 3) := by decide +kernel
theorem dX11_next_13 : decode cX11_next 13 = .ok (.invokevirtual 316, 3) := by decide +kernel
theorem dX11_next_16 : decode cX11_next 16 = .ok (.bipush 32, 2) := by decide +kernel
theorem dX11_next_18 : decode cX11_next 18 = .ok (.if_icmp .eq 16, 3) := by decide +kernel
theorem dX11_next_21 : decode cX11_next 21 = .ok (.aload_n 0, 1) := by decide +kernel
theorem dX11_next_22 : decode cX11_next 22 = .ok (.aload_n 0, 1) := by decide +kernel
theorem dX11_next_23 : decode cX11_next 23 = .ok (.getfield 313, 3) := by decide +kernel
theorem dX11_next_26 : decode cX11_next 26 = .ok (.invokevirtual 316, 3) := by decide +kernel
theorem dX11_next_29 : decode cX11_next 29 = .ok (.bipush 10, 2) := by decide +kernel
theorem dX11_next_31 : decode cX11_next 31 = .ok (.if_icmp .ne 16, 3) := by decide +kernel
theorem dX11_next_47 : decode cX11_next 47 = .ok (.aload_n 0, 1) := by decide +kernel
theorem dX11_next_48 : decode cX11_next 48 = .ok (.aload_n 0, 1) := by decide +kernel
theorem dX11_next_49 : decode cX11_next 49 = .ok (.getfield 313, 3) := by decide +kernel
theorem dX11_next_52 : decode cX11_next 52 = .ok (.putfield 310, 3) := by decide +kernel
theorem dX11_next_55 : decode cX11_next 55 = .ok (.aload_n 0, 1) := by decide +kernel
theorem dX11_next_56 : decode cX11_next 56 = .ok (.aload_n 0, 1) := by decide +kernel
theorem dX11_next_57 : decode cX11_next 57 = .ok (.getfield 310, 3) := by decide +kernel
theorem dX11_next_60 : decode cX11_next 60 = .ok (.invokevirtual 316, 3) := by decide +kernel
theorem dX11_next_63 : decode cX11_next 63 = .ok (.i2l, 1) := by decide +kernel
theorem dX11_next_64 : decode cX11_next 64 = .ok (.ldc2_w 319, 3) := by decide +kernel
theorem dX11_next_67 : decode cX11_next 67 = .ok (.ldc2_w 321, 3) := by decide +kernel
theorem dX11_next_70 : decode cX11_next 70 = .ok (.invokestatic 61, 3) := by decide +kernel
theorem dX11_next_73 : decode cX11_next 73 = .ok (.ifCond .eq 37, 3) := by decide +kernel
theorem dX11_next_110 : decode cX11_next 110 = .ok (.aload_n 0, 1) := by decide +kernel
theorem dX11_next_111 : decode cX11_next 111 = .ok (.aload_n 0, 1) := by decide +kernel
theorem dX11_next_112 : decode cX11_next 112 = .ok (.getfield 310, 3) := by decide +kernel
theorem dX11_next_115 : decode cX11_next 115 = .ok (.invokevirtual 316, 3) := by decide +kernel
theorem dX11_next_118 : decode cX11_next 118 = .ok (.i2l, 1) := by decide +kernel
theorem dX11_next_119 : decode cX11_next 119 = .ok (.ldc2_w 323, 3) := by decide +kernel
theorem dX11_next_122 : decode cX11_next 122 = .ok (.ldc2_w 325, 3) := by decide +kernel
theorem dX11_next_125 : decode cX11_next 125 = .ok (.invokestatic 61, 3) := by decide +kernel
theorem dX11_next_128 : decode cX11_next 128 = .ok (.ifCond .eq 37, 3) := by decide +kernel
theorem dX11_next_165 : decode cX11_next 165 = .ok (.aload_n 0, 1) := by decide +kernel
theorem dX11_next_166 : decode cX11_next 166 = .ok (.getfield 310, 3) := by decide +kernel
theorem dX11_next_169 : decode cX11_next 169 = .ok (.aload_n 0, 1) := by decide +kernel
theorem dX11_next_170 : decode cX11_next 170 = .ok (.getfield 307, 3) := by decide +kernel
theorem dX11_next_173 : decode cX11_next 173 = .ok (.if_icmp .ge 13, 3) := by decide +kernel
theorem dX11_next_186 : decode cX11_next 186 = .ok (.return_, 1) := by decide +kernel
theorem dX11_wrong_0 : decode cX11_wrong 0 = .ok (.aload_n 0, 1) := by decide +kernel
theorem dX11_wrong_1 : decode cX11_wrong 1 = .ok (.getfield 327, 3) := by decide +kernel
theorem dX11_wrong_4 : decode cX11_wrong 4 = .ok (.ifCond .le 4, 3) := by decide +kernel
theorem dX11_wrong_7 : decode cX11_wrong 7 = .ok (.return_, 1) := by decide +kernel
theorem dX11_wrong_8 : decode cX11_wrong 8 = .ok (.aload_n 0, 1) := by decide +kernel
theorem dX11_wrong_9 : decode cX11_wrong 9 = .ok (.iload_n 1, 1) := by decide +kernel
theorem dX11_wrong_10 : decode cX11_wrong 10 = .ok (.putfield 327, 3) := by decide +kernel
theorem dX11_wrong_13 : decode cX11_wrong 13 = .ok (.aload_n 0, 1) := by decide +kernel
theorem dX11_wrong_14 : decode cX11_wrong 14 = .ok (.aload_n 0, 1) := by decide +kernel
theorem dX11_wrong_15 : decode cX11_wrong 15 = .ok (.getfield 313, 3) := by decide +kernel
theorem dX11_wrong_18 : decode cX11_wrong 18 = .ok (.putfield 39, 3) := by decide +kernel
theorem dX11_wrong_21 : decode cX11_wrong 21 = .ok (.return_, 1) := by decide +kernel
theorem dX11_isWord_0 : decode cX11_isWord 0 = .ok (.aload_n 0, 1) := by decide +kernel
theorem dX11_isWord_1 : decode cX11_isWord 1 = .ok (.getfield 310, 3) := by decide +kernel
theorem dX11_isWord_4 : decode cX11_isWord 4 = .ok (.aload_n 0, 1) := by decide +kernel
theorem dX11_isWord_5 : decode cX11_isWord 5 = .ok (.getfield 313, 3) := by decide +kernel
theorem dX11_isWord_8 : decode cX11_isWord 8 = .ok (.isub, 1) := by decide +kernel
theorem dX11_isWord_9 : decode cX11_isWord 9 = .ok (.aload_n 1, 1) := by decide +kernel
theorem dX11_isWord_10 : decode cX11_isWord 10 = .ok (.invokevirtual 330, 3) := by decide +kernel
theorem dX11_isWord_13 : decode cX11_isWord 13 = .ok (.if_icmp .ne 7, 3) := by decide +kernel
theorem dX11_isWord_20 : decode cX11_isWord 20 = .ok (.iconst 0, 1) := by decide +kernel
theorem dX11_isWord_21 : decode cX11_isWord 21 = .ok (.istore_n 2, 1) := by decide +kernel
theorem dX11_isWord_22 : decode cX11_isWord 22 = .ok (.iconst 0, 1) := by decide +kernel
theorem dX11_isWord_23 : decode cX11_isWord 23 = .ok (.istore_n 3, 1) := by decide +kernel
theorem dX11_isWord_24 : decode cX11_isWord 24 = .ok (.iload_n 3, 1) := by decide +kernel
theorem dX11_isWord_25 : decode cX11_isWord 25 = .ok (.aload_n 1, 1) := by decide +kernel
theorem dX11_isWord_26 : decode cX11_isWord 26 = .ok (.invokevirtual 330, 3) := by decide +kernel
theorem dX11_isWord_29 : decode cX11_isWord 29 = .ok (.if_icmp .ge 37, 3) := by decide +kernel
theorem dX11_isWord_32 : decode cX11_isWord 32 = .ok (.iload_n 2, 1) := by decide +kernel
theorem dX11_isWord_33 : decode cX11_isWord 33 = .ok (.ifCond .eq 33, 3) := by decide +kernel
theorem dX11_isWord_66 : decode cX11_isWord 66 = .ok (.iload_n 2, 1) := by decide +kernel
theorem dX11_isWord_67 : decode cX11_isWord 67 = .ok (.ireturn, 1) := by decide +kernel
theorem dX11_pass_0 : decode cX11_pass 0 = .ok (.aload_n 0, 1) := by decide +kernel
theorem dX11_pass_1 : decode cX11_pass 1 = .ok (.getfield 327, 3) := by decide +kernel
theorem dX11_pass_4 : decode cX11_pass 4 = .ok (.ifCond .ne 7, 3) := by decide +kernel
theorem dX11_pass_11 : decode cX11_pass 11 = .ok (.return_, 1) := by decide +kernel
theorem dX11_number_0 : decode cX11_number 0 = .ok (.aload_n 0, 1) := by decide +kernel
theorem dX11_number_1 : decode cX11_number 1 = .ok (.getfield 327, 3) := by decide +kernel
theorem dX11_number_4 : decode cX11_number 4 = .ok (.ifCond .le 5, 3) := by decide +kernel
theorem dX11_number_7 : decode cX11_number 7 = .ok (.iconst 0, 1) := by decide +kernel
theorem dX11_number_8 : decode cX11_number 8 = .ok (.ireturn, 1) := by decide +kernel
theorem dX11_must_0 : decode cX11_must 0 = .ok (.aload_n 0, 1) := by decide +kernel
theorem dX11_must_1 : decode cX11_must 1 = .ok (.aload_n 1, 1) := by decide +kernel
theorem dX11_must_2 : decode cX11_must 2 = .ok (.invokevirtual 347, 3) := by decide +kernel
theorem dX11_must_5 : decode cX11_must 5 = .ok (.ifCond .ne 8, 3) := by decide +kernel
theorem dX11_must_8 : decode cX11_must 8 = .ok (.aload_n 0, 1) := by decide +kernel
theorem dX11_must_9 : decode cX11_must 9 = .ok (.iconst 1, 1) := by decide +kernel
theorem dX11_must_10 : decode cX11_must 10 = .ok (.invokevirtual 341, 3) := by decide +kernel
theorem dX11_must_13 : decode cX11_must 13 = .ok (.aload_n 0, 1) := by decide +kernel
theorem dX11_must_14 : decode cX11_must 14 = .ok (.invokevirtual 344, 3) := by decide +kernel
theorem dX11_must_17 : decode cX11_must 17 = .ok (.return_, 1) := by decide +kernel
theorem dX11_begin_0 : decode cX11_begin 0 = .ok (.aload_n 0, 1) := by decide +kernel
theorem dX11_begin_1 : decode cX11_begin 1 = .ok (.aload_n 0, 1) := by decide +kernel
theorem dX11_begin_2 : decode cX11_begin 2 = .ok (.getfield 301, 3) := by decide +kernel
theorem dX11_begin_5 : decode cX11_begin 5 = .ok (.putfield 307, 3) := by decide +kernel
theorem dX11_begin_8 : decode cX11_begin 8 = .ok (.aload_n 0, 1) := by decide +kernel
theorem dX11_begin_9 : decode cX11_begin 9 = .ok (.iconst 0, 1) := by decide +kernel
theorem dX11_begin_10 : decode cX11_begin 10 = .ok (.putfield 301, 3) := by decide +kernel
theorem dX11_begin_13 : decode cX11_begin 13 = .ok (.aload_n 0, 1) := by decide +kernel
theorem dX11_begin_14 : decode cX11_begin 14 = .ok (.iconst 0, 1) := by decide +kernel
theorem dX11_begin_15 : decode cX11_begin 15 = .ok (.putfield 310, 3) := by decide +kernel
theorem dX11_begin_18 : decode cX11_begin 18 = .ok (.aload_n 0, 1) := by decide +kernel
theorem dX11_begin_19 : decode cX11_begin 19 = .ok (.iconst 0, 1) := by decide +kernel
theorem dX11_begin_20 : decode cX11_begin 20 = .ok (.putfield 327, 3) := by decide +kernel
theorem dX11_begin_23 : decode cX11_begin 23 = .ok (.aload_n 0, 1) := by decide +kernel
theorem dX11_begin_24 : decode cX11_begin 24 = .ok (.invokevirtual 338, 3) := by decide +kernel
theorem dX11_begin_27 : decode cX11_begin 27 = .ok (.return_, 1) := by decide +kernel
theorem dX11_readHead_0 : decode cX11_readHead 0 = .ok (.aload_n 0, 1) := by decide +kernel
theorem dX11_readHead_1 : decode cX11_readHead 1 = .ok (.ldc_w 351, 3) := by decide +kernel
theorem dX11_readHead_4 : decode cX11_readHead 4 = .ok (.invokevirtual 353, 3) := by decide +kernel
theorem dX11_readHead_7 : decode cX11_readHead 7 = .ok (.aload_n 0, 1) := by decide +kernel
theorem dX11_readHead_8 : decode cX11_readHead 8 = .ok (.ldc_w 357, 3) := by decide +kernel
theorem dX11_readHead_11 : decode cX11_readHead 11 = .ok (.invokevirtual 347, 3) := by decide +kernel
theorem dX11_readHead_14 : decode cX11_readHead 14 = .ok (.ifCond .eq 13, 3) := by decide +kernel
theorem dX11_readHead_27 : decode cX11_readHead 27 = .ok (.aload_n 0, 1) := by decide +kernel
theorem dX11_readHead_28 : decode cX11_readHead 28 = .ok (.ldc_w 359, 3) := by decide +kernel
theorem dX11_readHead_31 : decode cX11_readHead 31 = .ok (.invokevirtual 347, 3) := by decide +kernel
theorem dX11_readHead_34 : decode cX11_readHead 34 = .ok (.ifCond .ne 8, 3) := by decide +kernel
theorem dX11_readHead_37 : decode cX11_readHead 37 = .ok (.aload_n 0, 1) := by decide +kernel
theorem dX11_readHead_38 : decode cX11_readHead 38 = .ok (.iconst 1, 1) := by decide +kernel
theorem dX11_readHead_39 : decode cX11_readHead 39 = .ok (.invokevirtual 341, 3) := by decide +kernel
theorem dX11_readHead_42 : decode cX11_readHead 42 = .ok (.aload_n 0, 1) := by decide +kernel
theorem dX11_readHead_43 : decode cX11_readHead 43 = .ok (.invokevirtual 344, 3) := by decide +kernel
theorem dX11_readHead_46 : decode cX11_readHead 46 = .ok (.aload_n 0, 1) := by decide +kernel
theorem dX11_readHead_47 : decode cX11_readHead 47 = .ok (.getfield 22, 3) := by decide +kernel
theorem dX11_readHead_50 : decode cX11_readHead 50 = .ok (.iconst 2, 1) := by decide +kernel
theorem dX11_readHead_51 : decode cX11_readHead 51 = .ok (.aload_n 0, 1) := by decide +kernel
theorem dX11_readHead_52 : decode cX11_readHead 52 = .ok (.lconst 0, 1) := by decide +kernel
theorem dX11_readHead_53 : decode cX11_readHead 53 = .ok (.ldc2_w 249, 3) := by decide +kernel
theorem dX11_readHead_56 : decode cX11_readHead 56 = .ok (.invokevirtual 361, 3) := by decide +kernel
theorem dX11_readHead_59 : decode cX11_readHead 59 = .ok (.i2l, 1) := by decide +kernel
theorem dX11_readHead_60 : decode cX11_readHead 60 = .ok (.lastore, 1) := by decide +kernel
theorem dX11_readHead_61 : decode cX11_readHead 61 = .ok (.aload_n 0, 1) := by decide +kernel
theorem dX11_readHead_62 : decode cX11_readHead 62 = .ok (.getfield 22, 3) := by decide +kernel
theorem dX11_readHead_65 : decode cX11_readHead 65 = .ok (.iconst 3, 1) := by decide +kernel
theorem dX11_readHead_66 : decode cX11_readHead 66 = .ok (.aload_n 0, 1) := by decide +kernel
theorem dX11_readHead_67 : decode cX11_readHead 67 = .ok (.lconst 0, 1) := by decide +kernel
theorem dX11_readHead_68 : decode cX11_readHead 68 = .ok (.ldc2_w 365, 3) := by decide +kernel
theorem dX11_readHead_71 : decode cX11_readHead 71 = .ok (.invokevirtual 361, 3) := by decide +kernel
theorem dX11_readHead_74 : decode cX11_readHead 74 = .ok (.i2l, 1) := by decide +kernel
theorem dX11_readHead_75 : decode cX11_readHead 75 = .ok (.lastore, 1) := by decide +kernel
theorem dX11_readHead_76 : decode cX11_readHead 76 = .ok (.aload_n 0, 1) := by decide +kernel
theorem dX11_readHead_77 : decode cX11_readHead 77 = .ok (.getfield 22, 3) := by decide +kernel
theorem dX11_readHead_80 : decode cX11_readHead 80 = .ok (.iconst 4, 1) := by decide +kernel
theorem dX11_readHead_81 : decode cX11_readHead 81 = .ok (.aload_n 0, 1) := by decide +kernel
theorem dX11_readHead_82 : decode cX11_readHead 82 = .ok (.lconst 1, 1) := by decide +kernel
theorem dX11_readHead_83 : decode cX11_readHead 83 = .ok (.ldc2_w 56, 3) := by decide +kernel
theorem dX11_readHead_86 : decode cX11_readHead 86 = .ok (.invokevirtual 361, 3) := by decide +kernel
theorem dX11_readHead_89 : decode cX11_readHead 89 = .ok (.i2l, 1) := by decide +kernel
theorem dX11_readHead_90 : decode cX11_readHead 90 = .ok (.lastore, 1) := by decide +kernel
theorem dX11_readHead_91 : decode cX11_readHead 91 = .ok (.aload_n 0, 1) := by decide +kernel
theorem dX11_readHead_92 : decode cX11_readHead 92 = .ok (.ldc_w 367, 3) := by decide +kernel
theorem dX11_readHead_95 : decode cX11_readHead 95 = .ok (.invokevirtual 353, 3) := by decide +kernel
theorem dX11_readHead_98 : decode cX11_readHead 98 = .ok (.aload_n 0, 1) := by decide +kernel
theorem dX11_readHead_99 : decode cX11_readHead 99 = .ok (.ldc_w 369, 3) := by decide +kernel
theorem dX11_readHead_102 : decode cX11_readHead 102 = .ok (.invokevirtual 353, 3) := by decide +kernel
theorem dX11_readHead_105 : decode cX11_readHead 105 = .ok (.aload_n 0, 1) := by decide +kernel
theorem dX11_readHead_106 : decode cX11_readHead 106 = .ok (.getfield 22, 3) := by decide +kernel
theorem dX11_readHead_109 : decode cX11_readHead 109 = .ok (.iconst 0, 1) := by decide +kernel
theorem dX11_readHead_110 : decode cX11_readHead 110 = .ok (.aload_n 0, 1) := by decide +kernel
theorem dX11_readHead_111 : decode cX11_readHead 111 = .ok (.lconst 1, 1) := by decide +kernel
theorem dX11_readHead_112 : decode cX11_readHead 112 = .ok (.ldc2_w 183, 3) := by decide +kernel
theorem dX11_readHead_115 : decode cX11_readHead 115 = .ok (.invokevirtual 361, 3) := by decide +kernel
theorem dX11_readHead_118 : decode cX11_readHead 118 = .ok (.i2l, 1) := by decide +kernel
theorem dX11_readHead_119 : decode cX11_readHead 119 = .ok (.lastore, 1) := by decide +kernel
theorem dX11_readHead_120 : decode cX11_readHead 120 = .ok (.aload_n 0, 1) := by decide +kernel
theorem dX11_readHead_121 : decode cX11_readHead 121 = .ok (.ldc_w 367, 3) := by decide +kernel
theorem dX11_readHead_124 : decode cX11_readHead 124 = .ok (.invokevirtual 353, 3) := by decide +kernel
theorem dX11_readHead_127 : decode cX11_readHead 127 = .ok (.return_, 1) := by decide +kernel
theorem dX11_parseFund_0 : decode cX11_parseFund 0 = .ok (.aload_n 0, 1) := by decide +kernel
theorem dX11_parseFund_1 : decode cX11_parseFund 1 = .ok (.iconst 0, 1) := by decide +kernel
theorem dX11_parseFund_2 : decode cX11_parseFund 2 = .ok (.putfield 58, 3) := by decide +kernel
theorem dX11_parseFund_5 : decode cX11_parseFund 5 = .ok (.aload_n 0, 1) := by decide +kernel
theorem dX11_parseFund_6 : decode cX11_parseFund 6 = .ok (.iconst (-1), 1) := by decide +kernel
theorem dX11_parseFund_7 : decode cX11_parseFund 7 = .ok (.putfield 39, 3) := by decide +kernel
theorem dX11_parseFund_10 : decode cX11_parseFund 10 = .ok (.aload_n 0, 1) := by decide +kernel
theorem dX11_parseFund_11 : decode cX11_parseFund 11 = .ok (.getfield 22, 3) := by decide +kernel
theorem dX11_parseFund_14 : decode cX11_parseFund 14 = .ok (.invokestatic 52, 3) := by decide +kernel
theorem dX11_parseFund_17 : decode cX11_parseFund 17 = .ok (.aload_n 0, 1) := by decide +kernel
theorem dX11_parseFund_18 : decode cX11_parseFund 18 = .ok (.invokevirtual 373, 3) := by decide +kernel
theorem dX11_parseFund_21 : decode cX11_parseFund 21 = .ok (.aload_n 0, 1) := by decide +kernel
theorem dX11_parseFund_22 : decode cX11_parseFund 22 = .ok (.invokevirtual 376, 3) := by decide +kernel
theorem dX11_parseFund_25 : decode cX11_parseFund 25 = .ok (.aload_n 0, 1) := by decide +kernel
theorem dX11_parseFund_26 : decode cX11_parseFund 26 = .ok (.getfield 327, 3) := by decide +kernel
theorem dX11_parseFund_29 : decode cX11_parseFund 29 = .ok (.ifCond .ne 21, 3) := by decide +kernel
theorem dX11_parseFund_50 : decode cX11_parseFund 50 = .ok (.aload_n 0, 1) := by decide +kernel
theorem dX11_parseFund_51 : decode cX11_parseFund 51 = .ok (.getfield 327, 3) := by decide +kernel
theorem dX11_parseFund_54 : decode cX11_parseFund 54 = .ok (.ifCond .le 5, 3) := by decide +kernel
theorem dX11_parseFund_57 : decode cX11_parseFund 57 = .ok (.iconst (-1), 1) := by decide +kernel
theorem dX11_parseFund_58 : decode cX11_parseFund 58 = .ok (.ireturn, 1) := by decide +kernel
theorem dX11_errorCode_0 : decode cX11_errorCode 0 = .ok (.aload_n 0, 1) := by decide +kernel
theorem dX11_errorCode_1 : decode cX11_errorCode 1 = .ok (.iconst 0, 1) := by decide +kernel
theorem dX11_errorCode_2 : decode cX11_errorCode 2 = .ok (.putfield 58, 3) := by decide +kernel
theorem dX11_errorCode_5 : decode cX11_errorCode 5 = .ok (.aload_n 0, 1) := by decide +kernel
theorem dX11_errorCode_6 : decode cX11_errorCode 6 = .ok (.getfield 327, 3) := by decide +kernel
theorem dX11_errorCode_9 : decode cX11_errorCode 9 = .ok (.ireturn, 1) := by decide +kernel
theorem dX11_errorPosition_0 : decode cX11_errorPosition 0 = .ok (.aload_n 0, 1) := by decide +kernel
theorem dX11_errorPosition_1 : decode cX11_errorPosition 1 = .ok (.iconst 0, 1) := by decide +kernel
theorem dX11_errorPosition_2 : decode cX11_errorPosition 2 = .ok (.putfield 58, 3) := by decide +kernel
theorem dX11_errorPosition_5 : decode cX11_errorPosition 5 = .ok (.aload_n 0, 1) := by decide +kernel
theorem dX11_errorPosition_6 : decode cX11_errorPosition 6 = .ok (.getfield 39, 3) := by decide +kernel
theorem dX11_errorPosition_9 : decode cX11_errorPosition 9 = .ok (.ireturn, 1) := by decide +kernel
theorem dX11_runScript_0 : decode cX11_runScript 0 = .ok (.aload_n 0, 1) := by decide +kernel
theorem dX11_runScript_1 : decode cX11_runScript 1 = .ok (.iconst 0, 1) := by decide +kernel
theorem dX11_runScript_2 : decode cX11_runScript 2 = .ok (.putfield 58, 3) := by decide +kernel
theorem dX11_runScript_5 : decode cX11_runScript 5 = .ok (.aload_n 0, 1) := by decide +kernel
theorem dX11_runScript_6 : decode cX11_runScript 6 = .ok (.getfield 327, 3) := by decide +kernel
theorem dX11_runScript_9 : decode cX11_runScript 9 = .ok (.istore_n 1, 1) := by decide +kernel
theorem dX11_runScript_10 : decode cX11_runScript 10 = .ok (.aload_n 0, 1) := by decide +kernel
theorem dX11_runScript_11 : decode cX11_runScript 11 = .ok (.getfield 39, 3) := by decide +kernel
theorem dX11_runScript_14 : decode cX11_runScript 14 = .ok (.istore_n 2, 1) := by decide +kernel
theorem dX11_runScript_15 : decode cX11_runScript 15 = .ok (.aload_n 0, 1) := by decide +kernel
theorem dX11_runScript_16 : decode cX11_runScript 16 = .ok (.getfield 7, 3) := by decide +kernel
theorem dX11_runScript_19 : decode cX11_runScript 19 = .ok (.aload_n 0, 1) := by decide +kernel
theorem dX11_runScript_20 : decode cX11_runScript 20 = .ok (.getfield 13, 3) := by decide +kernel
theorem dX11_runScript_23 : decode cX11_runScript 23 = .ok (.invokestatic 76, 3) := by decide +kernel
theorem dX11_runScript_26 : decode cX11_runScript 26 = .ok (.aload_n 0, 1) := by decide +kernel
theorem dX11_runScript_27 : decode cX11_runScript 27 = .ok (.invokevirtual 373, 3) := by decide +kernel
theorem dX11_runScript_30 : decode cX11_runScript 30 = .ok (.iconst 0, 1) := by decide +kernel
theorem dX11_runScript_31 : decode cX11_runScript 31 = .ok (.istore_n 3, 1) := by decide +kernel
theorem dX11_runScript_32 : decode cX11_runScript 32 = .ok (.aload_n 0, 1) := by decide +kernel
theorem dX11_runScript_33 : decode cX11_runScript 33 = .ok (.getfield 327, 3) := by decide +kernel
theorem dX11_runScript_36 : decode cX11_runScript 36 = .ok (.ifCond .ne 28, 3) := by decide +kernel
theorem dX11_runScript_39 : decode cX11_runScript 39 = .ok (.aload_n 0, 1) := by decide +kernel
theorem dX11_runScript_40 : decode cX11_runScript 40 = .ok (.getfield 313, 3) := by decide +kernel
theorem dX11_runScript_43 : decode cX11_runScript 43 = .ok (.aload_n 0, 1) := by decide +kernel
theorem dX11_runScript_44 : decode cX11_runScript 44 = .ok (.getfield 307, 3) := by decide +kernel
theorem dX11_runScript_47 : decode cX11_runScript 47 = .ok (.if_icmp .ge 17, 3) := by decide +kernel
theorem dX11_runScript_64 : decode cX11_runScript 64 = .ok (.aload_n 0, 1) := by decide +kernel
theorem dX11_runScript_65 : decode cX11_runScript 65 = .ok (.getfield 327, 3) := by decide +kernel
theorem dX11_runScript_68 : decode cX11_runScript 68 = .ok (.ifCond .ne 7, 3) := by decide +kernel
theorem dX11_runScript_71 : decode cX11_runScript 71 = .ok (.iload_n 3, 1) := by decide +kernel
theorem dX11_runScript_72 : decode cX11_runScript 72 = .ok (.goto 9, 3) := by decide +kernel
theorem dX11_runScript_81 : decode cX11_runScript 81 = .ok (.istore 4, 2) := by decide +kernel
theorem dX11_runScript_83 : decode cX11_runScript 83 = .ok (.aload_n 0, 1) := by decide +kernel
theorem dX11_runScript_84 : decode cX11_runScript 84 = .ok (.getfield 327, 3) := by decide +kernel
theorem dX11_runScript_87 : decode cX11_runScript 87 = .ok (.ifCond .ne 10, 3) := by decide +kernel
theorem dX11_runScript_90 : decode cX11_runScript 90 = .ok (.aload_n 0, 1) := by decide +kernel
theorem dX11_runScript_91 : decode cX11_runScript 91 = .ok (.invokevirtual 80, 3) := by decide +kernel
theorem dX11_runScript_94 : decode cX11_runScript 94 = .ok (.goto 14, 3) := by decide +kernel
theorem dX11_runScript_108 : decode cX11_runScript 108 = .ok (.aload_n 0, 1) := by decide +kernel
theorem dX11_runScript_109 : decode cX11_runScript 109 = .ok (.iload_n 1, 1) := by decide +kernel
theorem dX11_runScript_110 : decode cX11_runScript 110 = .ok (.putfield 327, 3) := by decide +kernel
theorem dX11_runScript_113 : decode cX11_runScript 113 = .ok (.aload_n 0, 1) := by decide +kernel
theorem dX11_runScript_114 : decode cX11_runScript 114 = .ok (.iload_n 2, 1) := by decide +kernel
theorem dX11_runScript_115 : decode cX11_runScript 115 = .ok (.putfield 39, 3) := by decide +kernel
theorem dX11_runScript_118 : decode cX11_runScript 118 = .ok (.iload 4, 2) := by decide +kernel
theorem dX11_runScript_120 : decode cX11_runScript 120 = .ok (.ireturn, 1) := by decide +kernel
theorem dX11_count_0 : decode cX11_count 0 = .ok (.aload_n 0, 1) := by decide +kernel
theorem dX11_count_1 : decode cX11_count 1 = .ok (.iload_n 1, 1) := by decide +kernel
theorem dX11_count_2 : decode cX11_count 2 = .ok (.i2l, 1) := by decide +kernel
theorem dX11_count_3 : decode cX11_count 3 = .ok (.lconst 0, 1) := by decide +kernel
theorem dX11_count_4 : decode cX11_count 4 = .ok (.ldc2_w 424, 3) := by decide +kernel
theorem dX11_count_7 : decode cX11_count 7 = .ok (.invokestatic 61, 3) := by decide +kernel
theorem dX11_count_10 : decode cX11_count 10 = .ok (.ifCond .ne 7, 3) := by decide +kernel
theorem dX11_count_13 : decode cX11_count 13 = .ok (.iconst 1, 1) := by decide +kernel
theorem dX11_count_14 : decode cX11_count 14 = .ok (.goto 4, 3) := by decide +kernel
theorem dX11_count_17 : decode cX11_count 17 = .ok (.iconst 0, 1) := by decide +kernel
theorem dX11_count_18 : decode cX11_count 18 = .ok (.iconst 1, 1) := by decide +kernel
theorem dX11_count_19 : decode cX11_count 19 = .ok (.invokevirtual 69, 3) := by decide +kernel
theorem dX11_count_22 : decode cX11_count 22 = .ok (.ifCond .eq 7, 3) := by decide +kernel
theorem dX11_count_25 : decode cX11_count 25 = .ok (.iconst 0, 1) := by decide +kernel
theorem dX11_count_26 : decode cX11_count 26 = .ok (.goto 10, 3) := by decide +kernel
theorem dX11_count_29 : decode cX11_count 29 = .ok (.aload_n 0, 1) := by decide +kernel
theorem dX11_count_30 : decode cX11_count 30 = .ok (.getfield 7, 3) := by decide +kernel
theorem dX11_count_33 : decode cX11_count 33 = .ok (.iload_n 1, 1) := by decide +kernel
theorem dX11_count_34 : decode cX11_count 34 = .ok (.laload, 1) := by decide +kernel
theorem dX11_count_35 : decode cX11_count 35 = .ok (.l2i, 1) := by decide +kernel
theorem dX11_count_36 : decode cX11_count 36 = .ok (.ireturn, 1) := by decide +kernel
theorem dX11_netAssets_0 : decode cX11_netAssets 0 = .ok (.aload_n 0, 1) := by decide +kernel
theorem dX11_netAssets_1 : decode cX11_netAssets 1 = .ok (.iconst 0, 1) := by decide +kernel
theorem dX11_netAssets_2 : decode cX11_netAssets 2 = .ok (.putfield 58, 3) := by decide +kernel
theorem dX11_netAssets_5 : decode cX11_netAssets 5 = .ok (.aload_n 0, 1) := by decide +kernel
theorem dX11_netAssets_6 : decode cX11_netAssets 6 = .ok (.invokevirtual 169, 3) := by decide +kernel
theorem dX11_netAssets_9 : decode cX11_netAssets 9 = .ok (.lreturn, 1) := by decide +kernel
theorem dX11_account_0 : decode cX11_account 0 = .ok (.aload_n 0, 1) := by decide +kernel
theorem dX11_account_1 : decode cX11_account 1 = .ok (.iload_n 1, 1) := by decide +kernel
theorem dX11_account_2 : decode cX11_account 2 = .ok (.i2l, 1) := by decide +kernel
theorem dX11_account_3 : decode cX11_account 3 = .ok (.lconst 0, 1) := by decide +kernel
theorem dX11_account_4 : decode cX11_account 4 = .ok (.ldc2_w 416, 3) := by decide +kernel
theorem dX11_account_7 : decode cX11_account 7 = .ok (.invokestatic 61, 3) := by decide +kernel
theorem dX11_account_10 : decode cX11_account 10 = .ok (.ifCond .ne 7, 3) := by decide +kernel
theorem dX11_account_13 : decode cX11_account 13 = .ok (.iconst 1, 1) := by decide +kernel
theorem dX11_account_14 : decode cX11_account 14 = .ok (.goto 4, 3) := by decide +kernel
theorem dX11_account_17 : decode cX11_account 17 = .ok (.iconst 0, 1) := by decide +kernel
theorem dX11_account_18 : decode cX11_account 18 = .ok (.iconst 1, 1) := by decide +kernel
theorem dX11_account_19 : decode cX11_account 19 = .ok (.invokevirtual 69, 3) := by decide +kernel
theorem dX11_account_22 : decode cX11_account 22 = .ok (.ifCond .eq 7, 3) := by decide +kernel
theorem dX11_account_25 : decode cX11_account 25 = .ok (.lconst 0, 1) := by decide +kernel
theorem dX11_account_26 : decode cX11_account 26 = .ok (.goto 12, 3) := by decide +kernel
theorem dX11_account_29 : decode cX11_account 29 = .ok (.aload_n 0, 1) := by decide +kernel
theorem dX11_account_30 : decode cX11_account 30 = .ok (.getfield 7, 3) := by decide +kernel
theorem dX11_account_33 : decode cX11_account 33 = .ok (.bipush 10, 2) := by decide +kernel
theorem dX11_account_35 : decode cX11_account 35 = .ok (.iload_n 1, 1) := by decide +kernel
theorem dX11_account_36 : decode cX11_account 36 = .ok (.iadd, 1) := by decide +kernel
theorem dX11_account_37 : decode cX11_account 37 = .ok (.laload, 1) := by decide +kernel
theorem dX11_account_38 : decode cX11_account 38 = .ok (.lreturn, 1) := by decide +kernel
theorem dX11_openSeries_0 : decode cX11_openSeries 0 = .ok (.aload_n 0, 1) := by decide +kernel
theorem dX11_openSeries_1 : decode cX11_openSeries 1 = .ok (.iload_n 1, 1) := by decide +kernel
theorem dX11_openSeries_2 : decode cX11_openSeries 2 = .ok (.i2l, 1) := by decide +kernel
theorem dX11_openSeries_3 : decode cX11_openSeries 3 = .ok (.lconst 0, 1) := by decide +kernel
theorem dX11_openSeries_4 : decode cX11_openSeries 4 = .ok (.aload_n 0, 1) := by decide +kernel
theorem dX11_openSeries_5 : decode cX11_openSeries 5 = .ok (.getfield 7, 3) := by decide +kernel
theorem dX11_openSeries_8 : decode cX11_openSeries 8 = .ok (.bipush 6, 2) := by decide +kernel
theorem dX11_openSeries_10 : decode cX11_openSeries 10 = .ok (.laload, 1) := by decide +kernel
theorem dX11_openSeries_11 : decode cX11_openSeries 11 = .ok (.lconst 1, 1) := by decide +kernel
theorem dX11_openSeries_12 : decode cX11_openSeries 12 = .ok (.lsub, 1) := by decide +kernel
theorem dX11_openSeries_13 : decode cX11_openSeries 13 = .ok (.invokestatic 61, 3) := by decide +kernel
theorem dX11_openSeries_16 : decode cX11_openSeries 16 = .ok (.ifCond .ne 7, 3) := by decide +kernel
theorem dX11_openSeries_19 : decode cX11_openSeries 19 = .ok (.iconst 1, 1) := by decide +kernel
theorem dX11_openSeries_20 : decode cX11_openSeries 20 = .ok (.goto 4, 3) := by decide +kernel
theorem dX11_openSeries_24 : decode cX11_openSeries 24 = .ok (.iconst 1, 1) := by decide +kernel
theorem dX11_openSeries_25 : decode cX11_openSeries 25 = .ok (.invokevirtual 69, 3) := by decide +kernel
theorem dX11_openSeries_28 : decode cX11_openSeries 28 = .ok (.ifCond .eq 7, 3) := by decide +kernel
theorem dX11_openSeries_31 : decode cX11_openSeries 31 = .ok (.iconst 0, 1) := by decide +kernel
theorem dX11_openSeries_32 : decode cX11_openSeries 32 = .ok (.goto 15, 3) := by decide +kernel
theorem dX11_openSeries_47 : decode cX11_openSeries 47 = .ok (.ireturn, 1) := by decide +kernel
theorem dX11_seriesValue_0 : decode cX11_seriesValue 0 = .ok (.aload_n 0, 1) := by decide +kernel
theorem dX11_seriesValue_1 : decode cX11_seriesValue 1 = .ok (.iload_n 1, 1) := by decide +kernel
theorem dX11_seriesValue_2 : decode cX11_seriesValue 2 = .ok (.i2l, 1) := by decide +kernel
theorem dX11_seriesValue_3 : decode cX11_seriesValue 3 = .ok (.invokevirtual 90, 3) := by decide +kernel
theorem dX11_seriesValue_6 : decode cX11_seriesValue 6 = .ok (.istore_n 3, 1) := by decide +kernel
theorem dX11_seriesValue_7 : decode cX11_seriesValue 7 = .ok (.aload_n 0, 1) := by decide +kernel
theorem dX11_seriesValue_8 : decode cX11_seriesValue 8 = .ok (.iload_n 3, 1) := by decide +kernel
theorem dX11_seriesValue_9 : decode cX11_seriesValue 9 = .ok (.iconst (-1), 1) := by decide +kernel
theorem dX11_seriesValue_10 : decode cX11_seriesValue 10 = .ok (.if_icmp .ne 7, 3) := by decide +kernel
theorem dX11_seriesValue_13 : decode cX11_seriesValue 13 = .ok (.iconst 1, 1) := by decide +kernel
theorem dX11_seriesValue_14 : decode cX11_seriesValue 14 = .ok (.goto 4, 3) := by decide +kernel
theorem dX11_seriesValue_18 : decode cX11_seriesValue 18 = .ok (.iconst 1, 1) := by decide +kernel
theorem dX11_seriesValue_19 : decode cX11_seriesValue 19 = .ok (.invokevirtual 69, 3) := by decide +kernel
theorem dX11_seriesValue_22 : decode cX11_seriesValue 22 = .ok (.ifCond .ne 28, 3) := by decide +kernel
theorem dX11_seriesValue_50 : decode cX11_seriesValue 50 = .ok (.lconst 0, 1) := by decide +kernel
theorem dX11_seriesValue_51 : decode cX11_seriesValue 51 = .ok (.lreturn, 1) := by decide +kernel
theorem dX11_lot_0 : decode cX11_lot 0 = .ok (.aload_n 0, 1) := by decide +kernel
theorem dX11_lot_1 : decode cX11_lot 1 = .ok (.iload_n 1, 1) := by decide +kernel
theorem dX11_lot_2 : decode cX11_lot 2 = .ok (.i2l, 1) := by decide +kernel
theorem dX11_lot_3 : decode cX11_lot 3 = .ok (.lconst 0, 1) := by decide +kernel
theorem dX11_lot_4 : decode cX11_lot 4 = .ok (.aload_n 0, 1) := by decide +kernel
theorem dX11_lot_5 : decode cX11_lot 5 = .ok (.getfield 7, 3) := by decide +kernel
theorem dX11_lot_8 : decode cX11_lot 8 = .ok (.bipush 7, 2) := by decide +kernel
theorem dX11_lot_10 : decode cX11_lot 10 = .ok (.laload, 1) := by decide +kernel
theorem dX11_lot_11 : decode cX11_lot 11 = .ok (.lconst 1, 1) := by decide +kernel
theorem dX11_lot_12 : decode cX11_lot 12 = .ok (.lsub, 1) := by decide +kernel
theorem dX11_lot_13 : decode cX11_lot 13 = .ok (.invokestatic 61, 3) := by decide +kernel
theorem dX11_lot_16 : decode cX11_lot 16 = .ok (.ifCond .ne 7, 3) := by decide +kernel
theorem dX11_lot_19 : decode cX11_lot 19 = .ok (.iconst 1, 1) := by decide +kernel
theorem dX11_lot_20 : decode cX11_lot 20 = .ok (.goto 4, 3) := by decide +kernel
theorem dX11_lot_24 : decode cX11_lot 24 = .ok (.iconst 1, 1) := by decide +kernel
theorem dX11_lot_25 : decode cX11_lot 25 = .ok (.invokevirtual 69, 3) := by decide +kernel
theorem dX11_lot_28 : decode cX11_lot 28 = .ok (.ifCond .ne 28, 3) := by decide +kernel
theorem dX11_lot_56 : decode cX11_lot 56 = .ok (.lconst 0, 1) := by decide +kernel
theorem dX11_lot_57 : decode cX11_lot 57 = .ok (.goto 14, 3) := by decide +kernel
theorem dX11_lot_71 : decode cX11_lot 71 = .ok (.lreturn, 1) := by decide +kernel
theorem dX11_request_0 : decode cX11_request 0 = .ok (.aload_n 0, 1) := by decide +kernel
theorem dX11_request_1 : decode cX11_request 1 = .ok (.iload_n 1, 1) := by decide +kernel
theorem dX11_request_2 : decode cX11_request 2 = .ok (.invokevirtual 238, 3) := by decide +kernel
theorem dX11_request_5 : decode cX11_request 5 = .ok (.ifCond .ne 28, 3) := by decide +kernel
theorem dX11_request_33 : decode cX11_request 33 = .ok (.lconst 0, 1) := by decide +kernel
theorem dX11_request_34 : decode cX11_request 34 = .ok (.goto 14, 3) := by decide +kernel
theorem dX11_request_48 : decode cX11_request 48 = .ok (.lreturn, 1) := by decide +kernel
theorem dX11_unitsOf_0 : decode cX11_unitsOf 0 = .ok (.aload_n 0, 1) := by decide +kernel
theorem dX11_unitsOf_1 : decode cX11_unitsOf 1 = .ok (.iload_n 1, 1) := by decide +kernel
theorem dX11_unitsOf_2 : decode cX11_unitsOf 2 = .ok (.invokevirtual 214, 3) := by decide +kernel
theorem dX11_unitsOf_5 : decode cX11_unitsOf 5 = .ok (.ifCond .eq 7, 3) := by decide +kernel
theorem dX11_unitsOf_8 : decode cX11_unitsOf 8 = .ok (.lconst 0, 1) := by decide +kernel
theorem dX11_unitsOf_9 : decode cX11_unitsOf 9 = .ok (.goto 8, 3) := by decide +kernel
theorem dX11_unitsOf_12 : decode cX11_unitsOf 12 = .ok (.aload_n 0, 1) := by decide +kernel
theorem dX11_unitsOf_13 : decode cX11_unitsOf 13 = .ok (.iload_n 1, 1) := by decide +kernel
theorem dX11_unitsOf_14 : decode cX11_unitsOf 14 = .ok (.invokevirtual 153, 3) := by decide +kernel
theorem dX11_unitsOf_17 : decode cX11_unitsOf 17 = .ok (.lreturn, 1) := by decide +kernel
theorem dX11_holding_0 : decode cX11_holding 0 = .ok (.aload_n 0, 1) := by decide +kernel
theorem dX11_holding_1 : decode cX11_holding 1 = .ok (.aload_n 0, 1) := by decide +kernel
theorem dX11_holding_2 : decode cX11_holding 2 = .ok (.iload_n 1, 1) := by decide +kernel
theorem dX11_holding_3 : decode cX11_holding 3 = .ok (.invokevirtual 65, 3) := by decide +kernel
theorem dX11_holding_6 : decode cX11_holding 6 = .ok (.ifCond .eq 13, 3) := by decide +kernel
theorem dX11_holding_9 : decode cX11_holding 9 = .ok (.aload_n 0, 1) := by decide +kernel
theorem dX11_holding_10 : decode cX11_holding 10 = .ok (.iload_n 2, 1) := by decide +kernel
theorem dX11_holding_11 : decode cX11_holding 11 = .ok (.i2l, 1) := by decide +kernel
theorem dX11_holding_12 : decode cX11_holding 12 = .ok (.invokevirtual 90, 3) := by decide +kernel
theorem dX11_holding_15 : decode cX11_holding 15 = .ok (.iconst (-1), 1) := by decide +kernel
theorem dX11_holding_16 : decode cX11_holding 16 = .ok (.if_icmp .ne 7, 3) := by decide +kernel
theorem dX11_holding_19 : decode cX11_holding 19 = .ok (.iconst 1, 1) := by decide +kernel
theorem dX11_holding_20 : decode cX11_holding 20 = .ok (.goto 4, 3) := by decide +kernel
theorem dX11_holding_24 : decode cX11_holding 24 = .ok (.iconst 1, 1) := by decide +kernel
theorem dX11_holding_25 : decode cX11_holding 25 = .ok (.invokevirtual 69, 3) := by decide +kernel
theorem dX11_holding_28 : decode cX11_holding 28 = .ok (.ifCond .eq 7, 3) := by decide +kernel
theorem dX11_holding_31 : decode cX11_holding 31 = .ok (.lconst 0, 1) := by decide +kernel
theorem dX11_holding_32 : decode cX11_holding 32 = .ok (.goto 10, 3) := by decide +kernel
theorem dX11_holding_42 : decode cX11_holding 42 = .ok (.lreturn, 1) := by decide +kernel
theorem dX11_valueOf_0 : decode cX11_valueOf 0 = .ok (.aload_n 0, 1) := by decide +kernel
theorem dX11_valueOf_1 : decode cX11_valueOf 1 = .ok (.iload_n 1, 1) := by decide +kernel
theorem dX11_valueOf_2 : decode cX11_valueOf 2 = .ok (.invokevirtual 214, 3) := by decide +kernel
theorem dX11_valueOf_5 : decode cX11_valueOf 5 = .ok (.ifCond .eq 7, 3) := by decide +kernel
theorem dX11_valueOf_8 : decode cX11_valueOf 8 = .ok (.lconst 0, 1) := by decide +kernel
theorem dX11_valueOf_9 : decode cX11_valueOf 9 = .ok (.goto 8, 3) := by decide +kernel
theorem dX11_valueOf_12 : decode cX11_valueOf 12 = .ok (.aload_n 0, 1) := by decide +kernel
theorem dX11_valueOf_13 : decode cX11_valueOf 13 = .ok (.iload_n 1, 1) := by decide +kernel
theorem dX11_valueOf_14 : decode cX11_valueOf 14 = .ok (.invokevirtual 434, 3) := by decide +kernel
theorem dX11_valueOf_17 : decode cX11_valueOf 17 = .ok (.lreturn, 1) := by decide +kernel
theorem dX11_richest_0 : decode cX11_richest 0 = .ok (.aload_n 0, 1) := by decide +kernel
theorem dX11_richest_1 : decode cX11_richest 1 = .ok (.iconst 0, 1) := by decide +kernel
theorem dX11_richest_2 : decode cX11_richest 2 = .ok (.putfield 58, 3) := by decide +kernel
theorem dX11_richest_5 : decode cX11_richest 5 = .ok (.iconst 0, 1) := by decide +kernel
theorem dX11_richest_6 : decode cX11_richest 6 = .ok (.istore_n 2, 1) := by decide +kernel
theorem dX11_richest_7 : decode cX11_richest 7 = .ok (.iload_n 2, 1) := by decide +kernel
theorem dX11_richest_8 : decode cX11_richest 8 = .ok (.i2l, 1) := by decide +kernel
theorem dX11_richest_9 : decode cX11_richest 9 = .ok (.aload_n 0, 1) := by decide +kernel
theorem dX11_richest_10 : decode cX11_richest 10 = .ok (.getfield 7, 3) := by decide +kernel
theorem dX11_richest_13 : decode cX11_richest 13 = .ok (.iconst 0, 1) := by decide +kernel
theorem dX11_richest_14 : decode cX11_richest 14 = .ok (.laload, 1) := by decide +kernel
theorem dX11_richest_15 : decode cX11_richest 15 = .ok (.lcmp, 1) := by decide +kernel
theorem dX11_richest_16 : decode cX11_richest 16 = .ok (.ifCond .ge 85, 3) := by decide +kernel
theorem dX11_richest_19 : decode cX11_richest 19 = .ok (.iconst 0, 1) := by decide +kernel
theorem dX11_richest_20 : decode cX11_richest 20 = .ok (.istore_n 3, 1) := by decide +kernel
theorem dX11_richest_21 : decode cX11_richest 21 = .ok (.aload_n 0, 1) := by decide +kernel
theorem dX11_richest_22 : decode cX11_richest 22 = .ok (.iload_n 2, 1) := by decide +kernel
theorem dX11_richest_23 : decode cX11_richest 23 = .ok (.invokevirtual 434, 3) := by decide +kernel
theorem dX11_richest_26 : decode cX11_richest 26 = .ok (.lstore 4, 2) := by decide +kernel
theorem dX11_richest_28 : decode cX11_richest 28 = .ok (.iconst 0, 1) := by decide +kernel
theorem dX11_richest_29 : decode cX11_richest 29 = .ok (.istore 6, 2) := by decide +kernel
theorem dX11_richest_31 : decode cX11_richest 31 = .ok (.iload 6, 2) := by decide +kernel
theorem dX11_richest_33 : decode cX11_richest 33 = .ok (.i2l, 1) := by decide +kernel
theorem dX11_richest_34 : decode cX11_richest 34 = .ok (.aload_n 0, 1) := by decide +kernel
theorem dX11_richest_35 : decode cX11_richest 35 = .ok (.getfield 7, 3) := by decide +kernel
theorem dX11_richest_38 : decode cX11_richest 38 = .ok (.iconst 0, 1) := by decide +kernel
theorem dX11_richest_39 : decode cX11_richest 39 = .ok (.laload, 1) := by decide +kernel
theorem dX11_richest_40 : decode cX11_richest 40 = .ok (.lcmp, 1) := by decide +kernel
theorem dX11_richest_41 : decode cX11_richest 41 = .ok (.ifCond .ge 47, 3) := by decide +kernel
theorem dX11_richest_44 : decode cX11_richest 44 = .ok (.aload_n 0, 1) := by decide +kernel
theorem dX11_richest_45 : decode cX11_richest 45 = .ok (.iload 6, 2) := by decide +kernel
theorem dX11_richest_47 : decode cX11_richest 47 = .ok (.invokevirtual 434, 3) := by decide +kernel
theorem dX11_richest_50 : decode cX11_richest 50 = .ok (.lstore 7, 2) := by decide +kernel
theorem dX11_richest_52 : decode cX11_richest 52 = .ok (.iload_n 3, 1) := by decide +kernel
theorem dX11_richest_53 : decode cX11_richest 53 = .ok (.lload 7, 2) := by decide +kernel
theorem dX11_richest_55 : decode cX11_richest 55 = .ok (.lload 4, 2) := by decide +kernel
theorem dX11_richest_57 : decode cX11_richest 57 = .ok (.lcmp, 1) := by decide +kernel
theorem dX11_richest_58 : decode cX11_richest 58 = .ok (.ifCond .gt 17, 3) := by decide +kernel
theorem dX11_richest_61 : decode cX11_richest 61 = .ok (.lload 7, 2) := by decide +kernel
theorem dX11_richest_63 : decode cX11_richest 63 = .ok (.lload 4, 2) := by decide +kernel
theorem dX11_richest_65 : decode cX11_richest 65 = .ok (.lcmp, 1) := by decide +kernel
theorem dX11_richest_66 : decode cX11_richest 66 = .ok (.ifCond .ne 13, 3) := by decide +kernel
theorem dX11_richest_69 : decode cX11_richest 69 = .ok (.iload 6, 2) := by decide +kernel
theorem dX11_richest_71 : decode cX11_richest 71 = .ok (.iload_n 2, 1) := by decide +kernel
theorem dX11_richest_72 : decode cX11_richest 72 = .ok (.if_icmp .ge 7, 3) := by decide +kernel
theorem dX11_richest_79 : decode cX11_richest 79 = .ok (.iconst 0, 1) := by decide +kernel
theorem dX11_richest_80 : decode cX11_richest 80 = .ok (.iadd, 1) := by decide +kernel
theorem dX11_richest_81 : decode cX11_richest 81 = .ok (.istore_n 3, 1) := by decide +kernel
theorem dX11_richest_82 : decode cX11_richest 82 = .ok (.iinc 6 1, 3) := by decide +kernel
theorem dX11_richest_85 : decode cX11_richest 85 = .ok (.goto (-54), 3) := by decide +kernel
theorem dX11_richest_88 : decode cX11_richest 88 = .ok (.iload_n 3, 1) := by decide +kernel
theorem dX11_richest_89 : decode cX11_richest 89 = .ok (.iload_n 1, 1) := by decide +kernel
theorem dX11_richest_90 : decode cX11_richest 90 = .ok (.if_icmp .ne 5, 3) := by decide +kernel
theorem dX11_richest_93 : decode cX11_richest 93 = .ok (.iload_n 2, 1) := by decide +kernel
theorem dX11_richest_94 : decode cX11_richest 94 = .ok (.ireturn, 1) := by decide +kernel
theorem dX11_richest_95 : decode cX11_richest 95 = .ok (.iinc 2 1, 3) := by decide +kernel
theorem dX11_richest_98 : decode cX11_richest 98 = .ok (.goto (-91), 3) := by decide +kernel
theorem dX11_richest_101 : decode cX11_richest 101 = .ok (.aload_n 0, 1) := by decide +kernel
theorem dX11_richest_102 : decode cX11_richest 102 = .ok (.iconst 1, 1) := by decide +kernel
theorem dX11_richest_103 : decode cX11_richest 103 = .ok (.invokevirtual 83, 3) := by decide +kernel
theorem dX11_richest_106 : decode cX11_richest 106 = .ok (.ireturn, 1) := by decide +kernel
theorem dX11_share_0 : decode cX11_share 0 = .ok (.aload_n 0, 1) := by decide +kernel
theorem dX11_share_1 : decode cX11_share 1 = .ok (.iload_n 1, 1) := by decide +kernel
theorem dX11_share_2 : decode cX11_share 2 = .ok (.invokevirtual 214, 3) := by decide +kernel
theorem dX11_share_5 : decode cX11_share 5 = .ok (.ifCond .eq 5, 3) := by decide +kernel
theorem dX11_share_8 : decode cX11_share 8 = .ok (.dconst 0, 1) := by decide +kernel
theorem dX11_share_9 : decode cX11_share 9 = .ok (.dreturn, 1) := by decide +kernel
theorem dX11_share_10 : decode cX11_share 10 = .ok (.lconst 0, 1) := by decide +kernel
theorem dX11_share_11 : decode cX11_share 11 = .ok (.lstore_n 2, 1) := by decide +kernel
theorem dX11_share_12 : decode cX11_share 12 = .ok (.iconst 0, 1) := by decide +kernel
theorem dX11_share_13 : decode cX11_share 13 = .ok (.istore 4, 2) := by decide +kernel
theorem dX11_share_15 : decode cX11_share 15 = .ok (.iload 4, 2) := by decide +kernel
theorem dX11_share_17 : decode cX11_share 17 = .ok (.i2l, 1) := by decide +kernel
theorem dX11_share_18 : decode cX11_share 18 = .ok (.aload_n 0, 1) := by decide +kernel
theorem dX11_share_19 : decode cX11_share 19 = .ok (.getfield 7, 3) := by decide +kernel
theorem dX11_share_22 : decode cX11_share 22 = .ok (.iconst 0, 1) := by decide +kernel
theorem dX11_share_23 : decode cX11_share 23 = .ok (.laload, 1) := by decide +kernel
theorem dX11_share_24 : decode cX11_share 24 = .ok (.lcmp, 1) := by decide +kernel
theorem dX11_share_25 : decode cX11_share 25 = .ok (.ifCond .ge 18, 3) := by decide +kernel
theorem dX11_share_28 : decode cX11_share 28 = .ok (.lload_n 2, 1) := by decide +kernel
theorem dX11_share_29 : decode cX11_share 29 = .ok (.aload_n 0, 1) := by decide +kernel
theorem dX11_share_30 : decode cX11_share 30 = .ok (.iload 4, 2) := by decide +kernel
theorem dX11_share_32 : decode cX11_share 32 = .ok (.invokevirtual 434, 3) := by decide +kernel
theorem dX11_share_35 : decode cX11_share 35 = .ok (.ladd, 1) := by decide +kernel
theorem dX11_share_36 : decode cX11_share 36 = .ok (.lstore_n 2, 1) := by decide +kernel
theorem dX11_share_37 : decode cX11_share 37 = .ok (.iinc 4 1, 3) := by decide +kernel
theorem dX11_share_40 : decode cX11_share 40 = .ok (.goto (-25), 3) := by decide +kernel
theorem dX11_share_43 : decode cX11_share 43 = .ok (.aload_n 0, 1) := by decide +kernel
theorem dX11_share_44 : decode cX11_share 44 = .ok (.lload_n 2, 1) := by decide +kernel
theorem dX11_share_45 : decode cX11_share 45 = .ok (.lconst 0, 1) := by decide +kernel
theorem dX11_share_46 : decode cX11_share 46 = .ok (.lcmp, 1) := by decide +kernel
theorem dX11_share_47 : decode cX11_share 47 = .ok (.ifCond .ne 7, 3) := by decide +kernel
theorem dX11_share_50 : decode cX11_share 50 = .ok (.iconst 1, 1) := by decide +kernel
theorem dX11_share_51 : decode cX11_share 51 = .ok (.goto 4, 3) := by decide +kernel
theorem dX11_share_55 : decode cX11_share 55 = .ok (.iconst 2, 1) := by decide +kernel
theorem dX11_share_56 : decode cX11_share 56 = .ok (.invokevirtual 69, 3) := by decide +kernel
theorem dX11_share_59 : decode cX11_share 59 = .ok (.ifCond .eq 7, 3) := by decide +kernel
theorem dX11_share_62 : decode cX11_share 62 = .ok (.dconst 0, 1) := by decide +kernel
theorem dX11_share_63 : decode cX11_share 63 = .ok (.goto 12, 3) := by decide +kernel
theorem dX11_share_75 : decode cX11_share 75 = .ok (.dreturn, 1) := by decide +kernel
theorem dX11_requestedValue_0 : decode cX11_requestedValue 0 = .ok (.aload_n 0, 1) := by decide +kernel
theorem dX11_requestedValue_1 : decode cX11_requestedValue 1 = .ok (.iconst 0, 1) := by decide +kernel
theorem dX11_requestedValue_2 : decode cX11_requestedValue 2 = .ok (.putfield 58, 3) := by decide +kernel
theorem dX11_requestedValue_5 : decode cX11_requestedValue 5 = .ok (.aload_n 0, 1) := by decide +kernel
theorem dX11_requestedValue_6 : decode cX11_requestedValue 6 = .ok (.invokevirtual 173, 3) := by decide +kernel
theorem dX11_requestedValue_9 : decode cX11_requestedValue 9 = .ok (.lreturn, 1) := by decide +kernel
theorem dX11_gateLimit_0 : decode cX11_gateLimit 0 = .ok (.aload_n 0, 1) := by decide +kernel
theorem dX11_gateLimit_1 : decode cX11_gateLimit 1 = .ok (.iconst 0, 1) := by decide +kernel
theorem dX11_gateLimit_2 : decode cX11_gateLimit 2 = .ok (.putfield 58, 3) := by decide +kernel
theorem dX11_gateLimit_5 : decode cX11_gateLimit 5 = .ok (.aload_n 0, 1) := by decide +kernel
theorem dX11_gateLimit_6 : decode cX11_gateLimit 6 = .ok (.invokevirtual 176, 3) := by decide +kernel
theorem dX11_gateLimit_9 : decode cX11_gateLimit 9 = .ok (.lreturn, 1) := by decide +kernel
theorem dX11_wouldRedeem_0 : decode cX11_wouldRedeem 0 = .ok (.aload_n 0, 1) := by decide +kernel
theorem dX11_wouldRedeem_1 : decode cX11_wouldRedeem 1 = .ok (.iload_n 1, 1) := by decide +kernel
theorem dX11_wouldRedeem_2 : decode cX11_wouldRedeem 2 = .ok (.invokevirtual 238, 3) := by decide +kernel
theorem dX11_wouldRedeem_5 : decode cX11_wouldRedeem 5 = .ok (.ifCond .eq 5, 3) := by decide +kernel
theorem dX11_wouldRedeem_8 : decode cX11_wouldRedeem 8 = .ok (.lconst 0, 1) := by decide +kernel
theorem dX11_wouldRedeem_9 : decode cX11_wouldRedeem 9 = .ok (.lreturn, 1) := by decide +kernel
theorem dX11_dealsUntilDone_0 : decode cX11_dealsUntilDone 0 = .ok (.aload_n 0, 1) := by decide +kernel
theorem dX11_dealsUntilDone_1 : decode cX11_dealsUntilDone 1 = .ok (.iload_n 1, 1) := by decide +kernel
theorem dX11_dealsUntilDone_2 : decode cX11_dealsUntilDone 2 = .ok (.invokevirtual 238, 3) := by decide +kernel
theorem dX11_dealsUntilDone_5 : decode cX11_dealsUntilDone 5 = .ok (.ifCond .eq 5, 3) := by decide +kernel
theorem dX11_dealsUntilDone_8 : decode cX11_dealsUntilDone 8 = .ok (.iconst 0, 1) := by decide +kernel
theorem dX11_dealsUntilDone_9 : decode cX11_dealsUntilDone 9 = .ok (.ireturn, 1) := by decide +kernel
theorem dX11_feesIf_0 : decode cX11_feesIf 0 = .ok (.aload_n 0, 1) := by decide +kernel
theorem dX11_feesIf_1 : decode cX11_feesIf 1 = .ok (.iload_n 1, 1) := by decide +kernel
theorem dX11_feesIf_2 : decode cX11_feesIf 2 = .ok (.invokestatic 251, 3) := by decide +kernel
theorem dX11_feesIf_5 : decode cX11_feesIf 5 = .ok (.ifCond .ne 7, 3) := by decide +kernel
theorem dX11_feesIf_8 : decode cX11_feesIf 8 = .ok (.iconst 1, 1) := by decide +kernel
theorem dX11_feesIf_9 : decode cX11_feesIf 9 = .ok (.goto 4, 3) := by decide +kernel
theorem dX11_feesIf_12 : decode cX11_feesIf 12 = .ok (.iconst 0, 1) := by decide +kernel
theorem dX11_feesIf_13 : decode cX11_feesIf 13 = .ok (.iconst 1, 1) := by decide +kernel
theorem dX11_feesIf_14 : decode cX11_feesIf 14 = .ok (.invokevirtual 69, 3) := by decide +kernel
theorem dX11_feesIf_17 : decode cX11_feesIf 17 = .ok (.ifCond .eq 5, 3) := by decide +kernel
theorem dX11_feesIf_20 : decode cX11_feesIf 20 = .ok (.lconst 0, 1) := by decide +kernel
theorem dX11_feesIf_21 : decode cX11_feesIf 21 = .ok (.lreturn, 1) := by decide +kernel
theorem dX11_feesIf_22 : decode cX11_feesIf 22 = .ok (.aload_n 0, 1) := by decide +kernel
theorem dX11_feesIf_23 : decode cX11_feesIf 23 = .ok (.getfield 7, 3) := by decide +kernel
theorem dX11_feesIf_26 : decode cX11_feesIf 26 = .ok (.aload_n 0, 1) := by decide +kernel
theorem dX11_feesIf_27 : decode cX11_feesIf 27 = .ok (.getfield 16, 3) := by decide +kernel
theorem dX11_feesIf_30 : decode cX11_feesIf 30 = .ok (.invokestatic 76, 3) := by decide +kernel
theorem dX11_feesIf_33 : decode cX11_feesIf 33 = .ok (.aload_n 0, 1) := by decide +kernel
theorem dX11_feesIf_34 : decode cX11_feesIf 34 = .ok (.iload_n 1, 1) := by decide +kernel
theorem dX11_feesIf_35 : decode cX11_feesIf 35 = .ok (.invokevirtual 257, 3) := by decide +kernel
theorem dX11_feesIf_38 : decode cX11_feesIf 38 = .ok (.lstore_n 2, 1) := by decide +kernel
theorem dX11_feesIf_39 : decode cX11_feesIf 39 = .ok (.aload_n 0, 1) := by decide +kernel
theorem dX11_feesIf_40 : decode cX11_feesIf 40 = .ok (.invokevirtual 440, 3) := by decide +kernel
theorem dX11_feesIf_43 : decode cX11_feesIf 43 = .ok (.lstore 4, 2) := by decide +kernel
theorem dX11_feesIf_45 : decode cX11_feesIf 45 = .ok (.aload_n 0, 1) := by decide +kernel
theorem dX11_feesIf_46 : decode cX11_feesIf 46 = .ok (.getfield 16, 3) := by decide +kernel
theorem dX11_feesIf_49 : decode cX11_feesIf 49 = .ok (.aload_n 0, 1) := by decide +kernel
theorem dX11_feesIf_50 : decode cX11_feesIf 50 = .ok (.getfield 7, 3) := by decide +kernel
theorem dX11_feesIf_53 : decode cX11_feesIf 53 = .ok (.invokestatic 76, 3) := by decide +kernel
theorem dX11_feesIf_56 : decode cX11_feesIf 56 = .ok (.lload 4, 2) := by decide +kernel
theorem dX11_feesIf_58 : decode cX11_feesIf 58 = .ok (.lreturn, 1) := by decide +kernel
theorem dX11_breakEven_0 : decode cX11_breakEven 0 = .ok (.aload_n 0, 1) := by decide +kernel
theorem dX11_breakEven_1 : decode cX11_breakEven 1 = .ok (.iload_n 1, 1) := by decide +kernel
theorem dX11_breakEven_2 : decode cX11_breakEven 2 = .ok (.i2l, 1) := by decide +kernel
theorem dX11_breakEven_3 : decode cX11_breakEven 3 = .ok (.invokevirtual 90, 3) := by decide +kernel
theorem dX11_breakEven_6 : decode cX11_breakEven 6 = .ok (.istore_n 2, 1) := by decide +kernel
theorem dX11_breakEven_7 : decode cX11_breakEven 7 = .ok (.aload_n 0, 1) := by decide +kernel
theorem dX11_breakEven_8 : decode cX11_breakEven 8 = .ok (.iload_n 2, 1) := by decide +kernel
theorem dX11_breakEven_9 : decode cX11_breakEven 9 = .ok (.iconst (-1), 1) := by decide +kernel
theorem dX11_breakEven_10 : decode cX11_breakEven 10 = .ok (.if_icmp .ne 7, 3) := by decide +kernel
theorem dX11_breakEven_13 : decode cX11_breakEven 13 = .ok (.iconst 1, 1) := by decide +kernel
theorem dX11_breakEven_14 : decode cX11_breakEven 14 = .ok (.goto 4, 3) := by decide +kernel
theorem dX11_breakEven_18 : decode cX11_breakEven 18 = .ok (.iconst 1, 1) := by decide +kernel
theorem dX11_breakEven_19 : decode cX11_breakEven 19 = .ok (.invokevirtual 69, 3) := by decide +kernel
theorem dX11_breakEven_22 : decode cX11_breakEven 22 = .ok (.ifCond .eq 5, 3) := by decide +kernel
theorem dX11_breakEven_25 : decode cX11_breakEven 25 = .ok (.iconst 0, 1) := by decide +kernel
theorem dX11_breakEven_26 : decode cX11_breakEven 26 = .ok (.ireturn, 1) := by decide +kernel
theorem dX11_worthBy_0 : decode cX11_worthBy 0 = .ok (.iconst 0, 1) := by decide +kernel
theorem dX11_worthBy_1 : decode cX11_worthBy 1 = .ok (.istore_n 3, 1) := by decide +kernel
theorem dX11_worthBy_2 : decode cX11_worthBy 2 = .ok (.iload_n 3, 1) := by decide +kernel
theorem dX11_worthBy_3 : decode cX11_worthBy 3 = .ok (.i2l, 1) := by decide +kernel
theorem dX11_worthBy_4 : decode cX11_worthBy 4 = .ok (.aload_n 0, 1) := by decide +kernel
theorem dX11_worthBy_5 : decode cX11_worthBy 5 = .ok (.getfield 7, 3) := by decide +kernel
theorem dX11_worthBy_8 : decode cX11_worthBy 8 = .ok (.bipush 6, 2) := by decide +kernel
theorem dX11_worthBy_10 : decode cX11_worthBy 10 = .ok (.laload, 1) := by decide +kernel
theorem dX11_worthBy_11 : decode cX11_worthBy 11 = .ok (.lcmp, 1) := by decide +kernel
theorem dX11_worthBy_12 : decode cX11_worthBy 12 = .ok (.ifCond .ge 62, 3) := by decide +kernel
theorem dX11_worthBy_74 : decode cX11_worthBy 74 = .ok (.lconst 0, 1) := by decide +kernel
theorem dX11_worthBy_75 : decode cX11_worthBy 75 = .ok (.lstore_n 3, 1) := by decide +kernel
theorem dX11_worthBy_76 : decode cX11_worthBy 76 = .ok (.iconst 0, 1) := by decide +kernel
theorem dX11_worthBy_77 : decode cX11_worthBy 77 = .ok (.istore 5, 2) := by decide +kernel
theorem dX11_worthBy_79 : decode cX11_worthBy 79 = .ok (.iload 5, 2) := by decide +kernel
theorem dX11_worthBy_81 : decode cX11_worthBy 81 = .ok (.i2l, 1) := by decide +kernel
theorem dX11_worthBy_82 : decode cX11_worthBy 82 = .ok (.aload_n 0, 1) := by decide +kernel
theorem dX11_worthBy_83 : decode cX11_worthBy 83 = .ok (.getfield 7, 3) := by decide +kernel
theorem dX11_worthBy_86 : decode cX11_worthBy 86 = .ok (.bipush 7, 2) := by decide +kernel
theorem dX11_worthBy_88 : decode cX11_worthBy 88 = .ok (.laload, 1) := by decide +kernel
theorem dX11_worthBy_89 : decode cX11_worthBy 89 = .ok (.lcmp, 1) := by decide +kernel
theorem dX11_worthBy_90 : decode cX11_worthBy 90 = .ok (.ifCond .ge 39, 3) := by decide +kernel
theorem dX11_worthBy_129 : decode cX11_worthBy 129 = .ok (.lload_n 3, 1) := by decide +kernel
theorem dX11_worthBy_130 : decode cX11_worthBy 130 = .ok (.lreturn, 1) := by decide +kernel
theorem dX11_rateFor_0 : decode cX11_rateFor 0 = .ok (.aload_n 0, 1) := by decide +kernel
theorem dX11_rateFor_1 : decode cX11_rateFor 1 = .ok (.iload_n 1, 1) := by decide +kernel
theorem dX11_rateFor_2 : decode cX11_rateFor 2 = .ok (.invokevirtual 214, 3) := by decide +kernel
theorem dX11_rateFor_5 : decode cX11_rateFor 5 = .ok (.ifCond .eq 5, 3) := by decide +kernel
theorem dX11_rateFor_8 : decode cX11_rateFor 8 = .ok (.iconst 0, 1) := by decide +kernel
theorem dX11_rateFor_9 : decode cX11_rateFor 9 = .ok (.ireturn, 1) := by decide +kernel
theorem dX11_rateFor_10 : decode cX11_rateFor 10 = .ok (.sipush (-9000), 3) := by decide +kernel
theorem dX11_rateFor_13 : decode cX11_rateFor 13 = .ok (.istore 4, 2) := by decide +kernel
theorem dX11_rateFor_15 : decode cX11_rateFor 15 = .ok (.iload 4, 2) := by decide +kernel
theorem dX11_rateFor_17 : decode cX11_rateFor 17 = .ok (.sipush 9999, 3) := by decide +kernel
theorem dX11_rateFor_20 : decode cX11_rateFor 20 = .ok (.if_icmp .gt 24, 3) := by decide +kernel
theorem dX11_rateFor_23 : decode cX11_rateFor 23 = .ok (.aload_n 0, 1) := by decide +kernel
theorem dX11_rateFor_24 : decode cX11_rateFor 24 = .ok (.iload_n 1, 1) := by decide +kernel
theorem dX11_rateFor_25 : decode cX11_rateFor 25 = .ok (.iload 4, 2) := by decide +kernel
theorem dX11_rateFor_27 : decode cX11_rateFor 27 = .ok (.invokevirtual 446, 3) := by decide +kernel
theorem dX11_rateFor_30 : decode cX11_rateFor 30 = .ok (.lload_n 2, 1) := by decide +kernel
theorem dX11_rateFor_31 : decode cX11_rateFor 31 = .ok (.lcmp, 1) := by decide +kernel
theorem dX11_rateFor_32 : decode cX11_rateFor 32 = .ok (.ifCond .lt 6, 3) := by decide +kernel
theorem dX11_rateFor_35 : decode cX11_rateFor 35 = .ok (.iload 4, 2) := by decide +kernel
theorem dX11_rateFor_37 : decode cX11_rateFor 37 = .ok (.ireturn, 1) := by decide +kernel
theorem dX11_rateFor_38 : decode cX11_rateFor 38 = .ok (.iinc 4 1, 3) := by decide +kernel
theorem dX11_rateFor_41 : decode cX11_rateFor 41 = .ok (.goto (-26), 3) := by decide +kernel
theorem dX11_rateFor_44 : decode cX11_rateFor 44 = .ok (.aload_n 0, 1) := by decide +kernel
theorem dX11_rateFor_45 : decode cX11_rateFor 45 = .ok (.iconst 2, 1) := by decide +kernel
theorem dX11_rateFor_46 : decode cX11_rateFor 46 = .ok (.invokevirtual 83, 3) := by decide +kernel
theorem dX11_rateFor_49 : decode cX11_rateFor 49 = .ok (.ireturn, 1) := by decide +kernel
theorem dX11_daysUntil_0 : decode cX11_daysUntil 0 = .ok (.aload_n 0, 1) := by decide +kernel
theorem dX11_daysUntil_1 : decode cX11_daysUntil 1 = .ok (.lload_n 1, 1) := by decide +kernel
theorem dX11_daysUntil_2 : decode cX11_daysUntil 2 = .ok (.lconst 0, 1) := by decide +kernel
theorem dX11_daysUntil_3 : decode cX11_daysUntil 3 = .ok (.lcmp, 1) := by decide +kernel
theorem dX11_daysUntil_4 : decode cX11_daysUntil 4 = .ok (.ifCond .ge 7, 3) := by decide +kernel
theorem dX11_daysUntil_7 : decode cX11_daysUntil 7 = .ok (.iconst 1, 1) := by decide +kernel
theorem dX11_daysUntil_8 : decode cX11_daysUntil 8 = .ok (.goto 4, 3) := by decide +kernel
theorem dX11_daysUntil_11 : decode cX11_daysUntil 11 = .ok (.iconst 0, 1) := by decide +kernel
theorem dX11_daysUntil_12 : decode cX11_daysUntil 12 = .ok (.iconst 1, 1) := by decide +kernel
theorem dX11_daysUntil_13 : decode cX11_daysUntil 13 = .ok (.invokevirtual 69, 3) := by decide +kernel
theorem dX11_daysUntil_16 : decode cX11_daysUntil 16 = .ok (.ifCond .eq 5, 3) := by decide +kernel
theorem dX11_daysUntil_19 : decode cX11_daysUntil 19 = .ok (.iconst 0, 1) := by decide +kernel
theorem dX11_daysUntil_20 : decode cX11_daysUntil 20 = .ok (.ireturn, 1) := by decide +kernel
theorem dX11_daysUntil_21 : decode cX11_daysUntil 21 = .ok (.aload_n 0, 1) := by decide +kernel
theorem dX11_daysUntil_22 : decode cX11_daysUntil 22 = .ok (.getfield 7, 3) := by decide +kernel
theorem dX11_daysUntil_25 : decode cX11_daysUntil 25 = .ok (.aload_n 0, 1) := by decide +kernel
theorem dX11_daysUntil_26 : decode cX11_daysUntil 26 = .ok (.getfield 16, 3) := by decide +kernel
theorem dX11_daysUntil_29 : decode cX11_daysUntil 29 = .ok (.invokestatic 76, 3) := by decide +kernel
theorem dX11_daysUntil_32 : decode cX11_daysUntil 32 = .ok (.iconst 0, 1) := by decide +kernel
theorem dX11_daysUntil_33 : decode cX11_daysUntil 33 = .ok (.istore_n 3, 1) := by decide +kernel
theorem dX11_daysUntil_34 : decode cX11_daysUntil 34 = .ok (.iload_n 3, 1) := by decide +kernel
theorem dX11_daysUntil_35 : decode cX11_daysUntil 35 = .ok (.sipush 400, 3) := by decide +kernel
theorem dX11_daysUntil_38 : decode cX11_daysUntil 38 = .ok (.if_icmp .gt 25, 3) := by decide +kernel
theorem dX11_daysUntil_41 : decode cX11_daysUntil 41 = .ok (.aload_n 0, 1) := by decide +kernel
theorem dX11_daysUntil_42 : decode cX11_daysUntil 42 = .ok (.invokevirtual 169, 3) := by decide +kernel
theorem dX11_daysUntil_45 : decode cX11_daysUntil 45 = .ok (.lload_n 1, 1) := by decide +kernel
theorem dX11_daysUntil_46 : decode cX11_daysUntil 46 = .ok (.lcmp, 1) := by decide +kernel
theorem dX11_daysUntil_47 : decode cX11_daysUntil 47 = .ok (.ifCond .le 16, 3) := by decide +kernel
theorem dX11_daysUntil_63 : decode cX11_daysUntil 63 = .ok (.aload_n 0, 1) := by decide +kernel
theorem dX11_daysUntil_64 : decode cX11_daysUntil 64 = .ok (.getfield 16, 3) := by decide +kernel
theorem dX11_daysUntil_67 : decode cX11_daysUntil 67 = .ok (.aload_n 0, 1) := by decide +kernel
theorem dX11_daysUntil_68 : decode cX11_daysUntil 68 = .ok (.getfield 7, 3) := by decide +kernel
theorem dX11_daysUntil_71 : decode cX11_daysUntil 71 = .ok (.invokestatic 76, 3) := by decide +kernel
theorem dX11_daysUntil_74 : decode cX11_daysUntil 74 = .ok (.iload_n 3, 1) := by decide +kernel
theorem dX11_daysUntil_75 : decode cX11_daysUntil 75 = .ok (.sipush 400, 3) := by decide +kernel
theorem dX11_daysUntil_78 : decode cX11_daysUntil 78 = .ok (.if_icmp .le 7, 3) := by decide +kernel
theorem dX11_daysUntil_85 : decode cX11_daysUntil 85 = .ok (.iload_n 3, 1) := by decide +kernel
theorem dX11_daysUntil_86 : decode cX11_daysUntil 86 = .ok (.ireturn, 1) := by decide +kernel
theorem dX11_wouldCrystallize_0 : decode cX11_wouldCrystallize 0 = .ok (.aload_n 0, 1) := by decide +kernel
theorem dX11_wouldCrystallize_1 : decode cX11_wouldCrystallize 1 = .ok (.iconst 0, 1) := by decide +kernel
theorem dX11_wouldCrystallize_2 : decode cX11_wouldCrystallize 2 = .ok (.putfield 58, 3) := by decide +kernel
theorem dX11_wouldCrystallize_5 : decode cX11_wouldCrystallize 5 = .ok (.aload_n 0, 1) := by decide +kernel
theorem dX11_wouldCrystallize_6 : decode cX11_wouldCrystallize 6 = .ok (.getfield 7, 3) := by decide +kernel
theorem dX11_wouldCrystallize_9 : decode cX11_wouldCrystallize 9 = .ok (.aload_n 0, 1) := by decide +kernel
theorem dX11_wouldCrystallize_10 : decode cX11_wouldCrystallize 10 = .ok (.getfield 16, 3) := by decide +kernel
theorem dX11_wouldCrystallize_13 : decode cX11_wouldCrystallize 13 = .ok (.invokestatic 76, 3) := by decide +kernel
theorem dX11_wouldCrystallize_16 : decode cX11_wouldCrystallize 16 = .ok (.aload_n 0, 1) := by decide +kernel
theorem dX11_wouldCrystallize_17 : decode cX11_wouldCrystallize 17 = .ok (.invokevirtual 281, 3) := by decide +kernel
theorem dX11_wouldCrystallize_20 : decode cX11_wouldCrystallize 20 = .ok (.lstore_n 1, 1) := by decide +kernel
theorem dX11_wouldCrystallize_21 : decode cX11_wouldCrystallize 21 = .ok (.aload_n 0, 1) := by decide +kernel
theorem dX11_wouldCrystallize_22 : decode cX11_wouldCrystallize 22 = .ok (.getfield 16, 3) := by decide +kernel
theorem dX11_wouldCrystallize_25 : decode cX11_wouldCrystallize 25 = .ok (.aload_n 0, 1) := by decide +kernel
theorem dX11_wouldCrystallize_26 : decode cX11_wouldCrystallize 26 = .ok (.getfield 7, 3) := by decide +kernel
theorem dX11_wouldCrystallize_29 : decode cX11_wouldCrystallize 29 = .ok (.invokestatic 76, 3) := by decide +kernel
theorem dX11_wouldCrystallize_32 : decode cX11_wouldCrystallize 32 = .ok (.lload_n 1, 1) := by decide +kernel
theorem dX11_wouldCrystallize_33 : decode cX11_wouldCrystallize 33 = .ok (.lreturn, 1) := by decide +kernel
theorem dX11_wouldMerge_0 : decode cX11_wouldMerge 0 = .ok (.aload_n 0, 1) := by decide +kernel
theorem dX11_wouldMerge_1 : decode cX11_wouldMerge 1 = .ok (.iconst 0, 1) := by decide +kernel
theorem dX11_wouldMerge_2 : decode cX11_wouldMerge 2 = .ok (.putfield 58, 3) := by decide +kernel
theorem dX11_wouldMerge_5 : decode cX11_wouldMerge 5 = .ok (.aload_n 0, 1) := by decide +kernel
theorem dX11_wouldMerge_6 : decode cX11_wouldMerge 6 = .ok (.getfield 7, 3) := by decide +kernel
theorem dX11_wouldMerge_9 : decode cX11_wouldMerge 9 = .ok (.aload_n 0, 1) := by decide +kernel
theorem dX11_wouldMerge_10 : decode cX11_wouldMerge 10 = .ok (.getfield 16, 3) := by decide +kernel
theorem dX11_wouldMerge_13 : decode cX11_wouldMerge 13 = .ok (.invokestatic 76, 3) := by decide +kernel
theorem dX11_wouldMerge_16 : decode cX11_wouldMerge 16 = .ok (.aload_n 0, 1) := by decide +kernel
theorem dX11_wouldMerge_17 : decode cX11_wouldMerge 17 = .ok (.invokevirtual 281, 3) := by decide +kernel
theorem dX11_wouldMerge_20 : decode cX11_wouldMerge 20 = .ok (.lstore_n 1, 1) := by decide +kernel
theorem dX11_wouldMerge_21 : decode cX11_wouldMerge 21 = .ok (.aload_n 0, 1) := by decide +kernel
theorem dX11_wouldMerge_22 : decode cX11_wouldMerge 22 = .ok (.invokevirtual 287, 3) := by decide +kernel
theorem dX11_wouldMerge_25 : decode cX11_wouldMerge 25 = .ok (.istore_n 3, 1) := by decide +kernel
theorem dX11_wouldMerge_26 : decode cX11_wouldMerge 26 = .ok (.aload_n 0, 1) := by decide +kernel
theorem dX11_wouldMerge_27 : decode cX11_wouldMerge 27 = .ok (.getfield 16, 3) := by decide +kernel
theorem dX11_wouldMerge_30 : decode cX11_wouldMerge 30 = .ok (.aload_n 0, 1) := by decide +kernel
theorem dX11_wouldMerge_31 : decode cX11_wouldMerge 31 = .ok (.getfield 7, 3) := by decide +kernel
theorem dX11_wouldMerge_34 : decode cX11_wouldMerge 34 = .ok (.invokestatic 76, 3) := by decide +kernel
theorem dX11_wouldMerge_37 : decode cX11_wouldMerge 37 = .ok (.iload_n 3, 1) := by decide +kernel
theorem dX11_wouldMerge_38 : decode cX11_wouldMerge 38 = .ok (.ireturn, 1) := by decide +kernel
theorem dX11_bestGate_0 : decode cX11_bestGate 0 = .ok (.aload_n 0, 1) := by decide +kernel
theorem dX11_bestGate_1 : decode cX11_bestGate 1 = .ok (.iload_n 1, 1) := by decide +kernel
theorem dX11_bestGate_2 : decode cX11_bestGate 2 = .ok (.invokevirtual 238, 3) := by decide +kernel
theorem dX11_bestGate_5 : decode cX11_bestGate 5 = .ok (.ifCond .eq 5, 3) := by decide +kernel
theorem dX11_bestGate_8 : decode cX11_bestGate 8 = .ok (.iconst 0, 1) := by decide +kernel
theorem dX11_bestGate_9 : decode cX11_bestGate 9 = .ok (.ireturn, 1) := by decide +kernel
theorem dX11_print_0 : decode cX11_print 0 = .ok (.aload_n 0, 1) := by decide +kernel
theorem dX11_print_1 : decode cX11_print 1 = .ok (.getfield 49, 3) := by decide +kernel
theorem dX11_print_4 : decode cX11_print 4 = .ok (.aload_n 0, 1) := by decide +kernel
theorem dX11_print_5 : decode cX11_print 5 = .ok (.getfield 450, 3) := by decide +kernel
theorem dX11_print_8 : decode cX11_print 8 = .ok (.iload_n 1, 1) := by decide +kernel
theorem dX11_print_9 : decode cX11_print 9 = .ok (.i2b, 1) := by decide +kernel
theorem dX11_print_10 : decode cX11_print 10 = .ok (.bastore, 1) := by decide +kernel
theorem dX11_print_11 : decode cX11_print 11 = .ok (.aload_n 0, 1) := by decide +kernel
theorem dX11_print_12 : decode cX11_print 12 = .ok (.dup, 1) := by decide +kernel
theorem dX11_print_13 : decode cX11_print 13 = .ok (.getfield 450, 3) := by decide +kernel
theorem dX11_print_16 : decode cX11_print 16 = .ok (.iconst 1, 1) := by decide +kernel
theorem dX11_print_17 : decode cX11_print 17 = .ok (.iadd, 1) := by decide +kernel
theorem dX11_print_18 : decode cX11_print 18 = .ok (.putfield 450, 3) := by decide +kernel
theorem dX11_print_21 : decode cX11_print 21 = .ok (.return_, 1) := by decide +kernel
theorem dX11_printWord_0 : decode cX11_printWord 0 = .ok (.iconst 0, 1) := by decide +kernel
theorem dX11_printWord_1 : decode cX11_printWord 1 = .ok (.istore_n 2, 1) := by decide +kernel
theorem dX11_printWord_2 : decode cX11_printWord 2 = .ok (.iload_n 2, 1) := by decide +kernel
theorem dX11_printWord_3 : decode cX11_printWord 3 = .ok (.aload_n 1, 1) := by decide +kernel
theorem dX11_printWord_4 : decode cX11_printWord 4 = .ok (.invokevirtual 330, 3) := by decide +kernel
theorem dX11_printWord_7 : decode cX11_printWord 7 = .ok (.if_icmp .ge 18, 3) := by decide +kernel
theorem dX11_printWord_10 : decode cX11_printWord 10 = .ok (.aload_n 0, 1) := by decide +kernel
theorem dX11_printWord_11 : decode cX11_printWord 11 = .ok (.aload_n 1, 1) := by decide +kernel
theorem dX11_printWord_12 : decode cX11_printWord 12 = .ok (.iload_n 2, 1) := by decide +kernel
theorem dX11_printWord_13 : decode cX11_printWord 13 = .ok (.invokevirtual 334, 3) := by decide +kernel
theorem dX11_printWord_16 : decode cX11_printWord 16 = .ok (.invokevirtual 453, 3) := by decide +kernel
theorem dX11_printWord_19 : decode cX11_printWord 19 = .ok (.iinc 2 1, 3) := by decide +kernel
theorem dX11_printWord_22 : decode cX11_printWord 22 = .ok (.goto (-20), 3) := by decide +kernel
theorem dX11_printWord_25 : decode cX11_printWord 25 = .ok (.return_, 1) := by decide +kernel
theorem dX11_printNumber_0 : decode cX11_printNumber 0 = .ok (.lload_n 1, 1) := by decide +kernel
theorem dX11_printNumber_1 : decode cX11_printNumber 1 = .ok (.ldc2_w 424, 3) := by decide +kernel
theorem dX11_printNumber_4 : decode cX11_printNumber 4 = .ok (.lcmp, 1) := by decide +kernel
theorem dX11_printNumber_5 : decode cX11_printNumber 5 = .ok (.ifCond .le 12, 3) := by decide +kernel
theorem dX11_printNumber_17 : decode cX11_printNumber 17 = .ok (.aload_n 0, 1) := by decide +kernel
theorem dX11_printNumber_18 : decode cX11_printNumber 18 = .ok (.ldc2_w 323, 3) := by decide +kernel
theorem dX11_printNumber_21 : decode cX11_printNumber 21 = .ok (.lload_n 1, 1) := by decide +kernel
theorem dX11_printNumber_22 : decode cX11_printNumber 22 = .ok (.ldc2_w 457, 3) := by decide +kernel
theorem dX11_printNumber_25 : decode cX11_printNumber 25 = .ok (.lrem, 1) := by decide +kernel
theorem dX11_printNumber_26 : decode cX11_printNumber 26 = .ok (.ladd, 1) := by decide +kernel
theorem dX11_printNumber_27 : decode cX11_printNumber 27 = .ok (.l2i, 1) := by decide +kernel
theorem dX11_printNumber_28 : decode cX11_printNumber 28 = .ok (.i2c, 1) := by decide +kernel
theorem dX11_printNumber_29 : decode cX11_printNumber 29 = .ok (.invokevirtual 453, 3) := by decide +kernel
theorem dX11_printNumber_32 : decode cX11_printNumber 32 = .ok (.return_, 1) := by decide +kernel
theorem dX11_writeReport_0 : decode cX11_writeReport 0 = .ok (.aload_n 0, 1) := by decide +kernel
theorem dX11_writeReport_1 : decode cX11_writeReport 1 = .ok (.iconst 0, 1) := by decide +kernel
theorem dX11_writeReport_2 : decode cX11_writeReport 2 = .ok (.putfield 58, 3) := by decide +kernel
theorem dX11_writeReport_5 : decode cX11_writeReport 5 = .ok (.aload_n 0, 1) := by decide +kernel
theorem dX11_writeReport_6 : decode cX11_writeReport 6 = .ok (.iconst 0, 1) := by decide +kernel
theorem dX11_writeReport_7 : decode cX11_writeReport 7 = .ok (.putfield 450, 3) := by decide +kernel
theorem dX11_writeReport_10 : decode cX11_writeReport 10 = .ok (.aload_n 0, 1) := by decide +kernel
theorem dX11_writeReport_11 : decode cX11_writeReport 11 = .ok (.ldc_w 468, 3) := by decide +kernel
theorem dX11_writeReport_14 : decode cX11_writeReport 14 = .ok (.invokevirtual 465, 3) := by decide +kernel
theorem dX11_writeReport_17 : decode cX11_writeReport 17 = .ok (.aload_n 0, 1) := by decide +kernel
theorem dX11_writeReport_18 : decode cX11_writeReport 18 = .ok (.aload_n 0, 1) := by decide +kernel
theorem dX11_writeReport_19 : decode cX11_writeReport 19 = .ok (.getfield 7, 3) := by decide +kernel
theorem dX11_writeReport_22 : decode cX11_writeReport 22 = .ok (.iconst 5, 1) := by decide +kernel
theorem dX11_writeReport_23 : decode cX11_writeReport 23 = .ok (.laload, 1) := by decide +kernel
theorem dX11_writeReport_24 : decode cX11_writeReport 24 = .ok (.invokevirtual 459, 3) := by decide +kernel
theorem dX11_writeReport_27 : decode cX11_writeReport 27 = .ok (.aload_n 0, 1) := by decide +kernel
theorem dX11_writeReport_28 : decode cX11_writeReport 28 = .ok (.ldc_w 470, 3) := by decide +kernel
theorem dX11_writeReport_31 : decode cX11_writeReport 31 = .ok (.invokevirtual 465, 3) := by decide +kernel
theorem dX11_writeReport_34 : decode cX11_writeReport 34 = .ok (.aload_n 0, 1) := by decide +kernel
theorem dX11_writeReport_35 : decode cX11_writeReport 35 = .ok (.aload_n 0, 1) := by decide +kernel
theorem dX11_writeReport_36 : decode cX11_writeReport 36 = .ok (.invokevirtual 169, 3) := by decide +kernel
theorem dX11_writeReport_39 : decode cX11_writeReport 39 = .ok (.invokevirtual 459, 3) := by decide +kernel
theorem dX11_writeReport_42 : decode cX11_writeReport 42 = .ok (.aload_n 0, 1) := by decide +kernel
theorem dX11_writeReport_43 : decode cX11_writeReport 43 = .ok (.bipush 10, 2) := by decide +kernel
theorem dX11_writeReport_45 : decode cX11_writeReport 45 = .ok (.invokevirtual 453, 3) := by decide +kernel
theorem dX11_writeReport_48 : decode cX11_writeReport 48 = .ok (.iconst 0, 1) := by decide +kernel
theorem dX11_writeReport_49 : decode cX11_writeReport 49 = .ok (.istore_n 1, 1) := by decide +kernel
theorem dX11_writeReport_50 : decode cX11_writeReport 50 = .ok (.iload_n 1, 1) := by decide +kernel
theorem dX11_writeReport_51 : decode cX11_writeReport 51 = .ok (.i2l, 1) := by decide +kernel
theorem dX11_writeReport_52 : decode cX11_writeReport 52 = .ok (.aload_n 0, 1) := by decide +kernel
theorem dX11_writeReport_53 : decode cX11_writeReport 53 = .ok (.getfield 7, 3) := by decide +kernel
theorem dX11_writeReport_56 : decode cX11_writeReport 56 = .ok (.bipush 6, 2) := by decide +kernel
theorem dX11_writeReport_58 : decode cX11_writeReport 58 = .ok (.laload, 1) := by decide +kernel
theorem dX11_writeReport_59 : decode cX11_writeReport 59 = .ok (.lcmp, 1) := by decide +kernel
theorem dX11_writeReport_60 : decode cX11_writeReport 60 = .ok (.ifCond .ge 17, 3) := by decide +kernel
theorem dX11_writeReport_77 : decode cX11_writeReport 77 = .ok (.aload_n 0, 1) := by decide +kernel
theorem dX11_writeReport_78 : decode cX11_writeReport 78 = .ok (.getfield 450, 3) := by decide +kernel
theorem dX11_writeReport_81 : decode cX11_writeReport 81 = .ok (.ireturn, 1) := by decide +kernel
theorem dX11_reportByte_0 : decode cX11_reportByte 0 = .ok (.aload_n 0, 1) := by decide +kernel
theorem dX11_reportByte_1 : decode cX11_reportByte 1 = .ok (.iload_n 1, 1) := by decide +kernel
theorem dX11_reportByte_2 : decode cX11_reportByte 2 = .ok (.i2l, 1) := by decide +kernel
theorem dX11_reportByte_3 : decode cX11_reportByte 3 = .ok (.lconst 0, 1) := by decide +kernel
theorem dX11_reportByte_4 : decode cX11_reportByte 4 = .ok (.aload_n 0, 1) := by decide +kernel
theorem dX11_reportByte_5 : decode cX11_reportByte 5 = .ok (.getfield 450, 3) := by decide +kernel
theorem dX11_reportByte_8 : decode cX11_reportByte 8 = .ok (.iconst 1, 1) := by decide +kernel
theorem dX11_reportByte_9 : decode cX11_reportByte 9 = .ok (.isub, 1) := by decide +kernel
theorem dX11_reportByte_10 : decode cX11_reportByte 10 = .ok (.i2l, 1) := by decide +kernel
theorem dX11_reportByte_11 : decode cX11_reportByte 11 = .ok (.invokestatic 61, 3) := by decide +kernel
theorem dX11_reportByte_14 : decode cX11_reportByte 14 = .ok (.ifCond .ne 7, 3) := by decide +kernel
theorem dX11_reportByte_17 : decode cX11_reportByte 17 = .ok (.iconst 1, 1) := by decide +kernel
theorem dX11_reportByte_18 : decode cX11_reportByte 18 = .ok (.goto 4, 3) := by decide +kernel
theorem dX11_reportByte_22 : decode cX11_reportByte 22 = .ok (.iconst 1, 1) := by decide +kernel
theorem dX11_reportByte_23 : decode cX11_reportByte 23 = .ok (.invokevirtual 69, 3) := by decide +kernel
theorem dX11_reportByte_26 : decode cX11_reportByte 26 = .ok (.ifCond .eq 7, 3) := by decide +kernel
theorem dX11_reportByte_29 : decode cX11_reportByte 29 = .ok (.iconst 0, 1) := by decide +kernel
theorem dX11_reportByte_30 : decode cX11_reportByte 30 = .ok (.goto 9, 3) := by decide +kernel
theorem dX11_reportByte_39 : decode cX11_reportByte 39 = .ok (.ireturn, 1) := by decide +kernel
theorem dJ9_floorDiv_7cf53_0 : decode cJ9_floorDiv_7cf53 0 = .ok (.iload_n 0, 1) := by decide +kernel
theorem dJ9_floorDiv_7cf53_1 : decode cJ9_floorDiv_7cf53 1 = .ok (.iload_n 1, 1) := by decide +kernel
theorem dJ9_floorDiv_7cf53_2 : decode cJ9_floorDiv_7cf53 2 = .ok (.idiv, 1) := by decide +kernel
theorem dJ9_floorDiv_7cf53_3 : decode cJ9_floorDiv_7cf53 3 = .ok (.istore_n 2, 1) := by decide +kernel
theorem dJ9_floorDiv_7cf53_4 : decode cJ9_floorDiv_7cf53 4 = .ok (.iload_n 0, 1) := by decide +kernel
theorem dJ9_floorDiv_7cf53_5 : decode cJ9_floorDiv_7cf53 5 = .ok (.iload_n 1, 1) := by decide +kernel
theorem dJ9_floorDiv_7cf53_6 : decode cJ9_floorDiv_7cf53 6 = .ok (.ixor, 1) := by decide +kernel
theorem dJ9_floorDiv_7cf53_7 : decode cJ9_floorDiv_7cf53 7 = .ok (.ifCond .ge 14, 3) := by decide +kernel
theorem dJ9_floorDiv_7cf53_10 : decode cJ9_floorDiv_7cf53 10 = .ok (.iload_n 2, 1) := by decide +kernel
theorem dJ9_floorDiv_7cf53_11 : decode cJ9_floorDiv_7cf53 11 = .ok (.iload_n 1, 1) := by decide +kernel
theorem dJ9_floorDiv_7cf53_12 : decode cJ9_floorDiv_7cf53 12 = .ok (.imul, 1) := by decide +kernel
theorem dJ9_floorDiv_7cf53_13 : decode cJ9_floorDiv_7cf53 13 = .ok (.iload_n 0, 1) := by decide +kernel
theorem dJ9_floorDiv_7cf53_14 : decode cJ9_floorDiv_7cf53 14 = .ok (.if_icmp .eq 7, 3) := by decide +kernel
theorem dJ9_floorDiv_7cf53_17 : decode cJ9_floorDiv_7cf53 17 = .ok (.iload_n 2, 1) := by decide +kernel
theorem dJ9_floorDiv_7cf53_18 : decode cJ9_floorDiv_7cf53 18 = .ok (.iconst 1, 1) := by decide +kernel
theorem dJ9_floorDiv_7cf53_19 : decode cJ9_floorDiv_7cf53 19 = .ok (.isub, 1) := by decide +kernel
theorem dJ9_floorDiv_7cf53_20 : decode cJ9_floorDiv_7cf53 20 = .ok (.ireturn, 1) := by decide +kernel
theorem dJ9_floorDiv_7cf53_21 : decode cJ9_floorDiv_7cf53 21 = .ok (.iload_n 2, 1) := by decide +kernel
theorem dJ9_floorDiv_7cf53_22 : decode cJ9_floorDiv_7cf53 22 = .ok (.ireturn, 1) := by decide +kernel
theorem dJ9_abs_067f4_0 : decode cJ9_abs_067f4 0 = .ok (.lload_n 0, 1) := by decide +kernel
theorem dJ9_abs_067f4_1 : decode cJ9_abs_067f4 1 = .ok (.lconst 0, 1) := by decide +kernel
theorem dJ9_abs_067f4_2 : decode cJ9_abs_067f4 2 = .ok (.lcmp, 1) := by decide +kernel
theorem dJ9_abs_067f4_3 : decode cJ9_abs_067f4 3 = .ok (.ifCond .ge 8, 3) := by decide +kernel
theorem dJ9_abs_067f4_11 : decode cJ9_abs_067f4 11 = .ok (.lload_n 0, 1) := by decide +kernel
theorem dJ9_abs_067f4_12 : decode cJ9_abs_067f4 12 = .ok (.lreturn, 1) := by decide +kernel
theorem dJ9_min_7cf53_0 : decode cJ9_min_7cf53 0 = .ok (.iload_n 0, 1) := by decide +kernel
theorem dJ9_min_7cf53_1 : decode cJ9_min_7cf53 1 = .ok (.iload_n 1, 1) := by decide +kernel
theorem dJ9_min_7cf53_2 : decode cJ9_min_7cf53 2 = .ok (.if_icmp .gt 7, 3) := by decide +kernel
theorem dJ9_min_7cf53_5 : decode cJ9_min_7cf53 5 = .ok (.iload_n 0, 1) := by decide +kernel
theorem dJ9_min_7cf53_6 : decode cJ9_min_7cf53 6 = .ok (.goto 4, 3) := by decide +kernel
theorem dJ9_min_7cf53_10 : decode cJ9_min_7cf53 10 = .ok (.ireturn, 1) := by decide +kernel
theorem dJ0_length_8abf5_0 : decode cJ0_length_8abf5 0 = .ok (.aload_n 0, 1) := by decide +kernel
theorem dJ0_length_8abf5_1 : decode cJ0_length_8abf5 1 = .ok (.getfield 9, 3) := by decide +kernel
theorem dJ0_length_8abf5_4 : decode cJ0_length_8abf5 4 = .ok (.arraylength, 1) := by decide +kernel
theorem dJ0_length_8abf5_5 : decode cJ0_length_8abf5 5 = .ok (.aload_n 0, 1) := by decide +kernel
theorem dJ0_length_8abf5_6 : decode cJ0_length_8abf5 6 = .ok (.invokevirtual 335, 3) := by decide +kernel
theorem dJ0_length_8abf5_9 : decode cJ0_length_8abf5 9 = .ok (.ishr, 1) := by decide +kernel
theorem dJ0_length_8abf5_10 : decode cJ0_length_8abf5 10 = .ok (.ireturn, 1) := by decide +kernel
theorem dJ0_charAt_5068e_0 : decode cJ0_charAt_5068e 0 = .ok (.aload_n 0, 1) := by decide +kernel
theorem dJ0_charAt_5068e_1 : decode cJ0_charAt_5068e 1 = .ok (.invokevirtual 492, 3) := by decide +kernel
theorem dJ0_charAt_5068e_4 : decode cJ0_charAt_5068e 4 = .ok (.ifCond .eq 12, 3) := by decide +kernel
theorem dJ0_charAt_5068e_7 : decode cJ0_charAt_5068e 7 = .ok (.aload_n 0, 1) := by decide +kernel
theorem dJ0_charAt_5068e_8 : decode cJ0_charAt_5068e 8 = .ok (.getfield 9, 3) := by decide +kernel
theorem dJ0_charAt_5068e_11 : decode cJ0_charAt_5068e 11 = .ok (.iload_n 1, 1) := by decide +kernel
theorem dJ0_charAt_5068e_12 : decode cJ0_charAt_5068e 12 = .ok (.invokestatic 495, 3) := by decide +kernel
theorem dJ0_charAt_5068e_15 : decode cJ0_charAt_5068e 15 = .ok (.ireturn, 1) := by decide +kernel
theorem dJ0_coder_7d493_0 : decode cJ0_coder_7d493 0 = .ok (.getstatic 38, 3) := by decide +kernel
theorem dJ0_coder_7d493_3 : decode cJ0_coder_7d493 3 = .ok (.ifCond .eq 10, 3) := by decide +kernel
theorem dJ0_coder_7d493_6 : decode cJ0_coder_7d493 6 = .ok (.aload_n 0, 1) := by decide +kernel
theorem dJ0_coder_7d493_7 : decode cJ0_coder_7d493 7 = .ok (.getfield 15, 3) := by decide +kernel
theorem dJ0_coder_7d493_10 : decode cJ0_coder_7d493 10 = .ok (.goto 4, 3) := by decide +kernel
theorem dJ0_coder_7d493_14 : decode cJ0_coder_7d493 14 = .ok (.ireturn, 1) := by decide +kernel
theorem dJ0_isLatin1_aae02_0 : decode cJ0_isLatin1_aae02 0 = .ok (.getstatic 38, 3) := by decide +kernel
theorem dJ0_isLatin1_aae02_3 : decode cJ0_isLatin1_aae02 3 = .ok (.ifCond .eq 14, 3) := by decide +kernel
theorem dJ0_isLatin1_aae02_6 : decode cJ0_isLatin1_aae02 6 = .ok (.aload_n 0, 1) := by decide +kernel
theorem dJ0_isLatin1_aae02_7 : decode cJ0_isLatin1_aae02 7 = .ok (.getfield 15, 3) := by decide +kernel
theorem dJ0_isLatin1_aae02_10 : decode cJ0_isLatin1_aae02 10 = .ok (.ifCond .ne 7, 3) := by decide +kernel
theorem dJ0_isLatin1_aae02_13 : decode cJ0_isLatin1_aae02 13 = .ok (.iconst 1, 1) := by decide +kernel
theorem dJ0_isLatin1_aae02_14 : decode cJ0_isLatin1_aae02 14 = .ok (.goto 4, 3) := by decide +kernel
theorem dJ0_isLatin1_aae02_18 : decode cJ0_isLatin1_aae02 18 = .ok (.ireturn, 1) := by decide +kernel
theorem dJ0_checkIndex_df160_0 : decode cJ0_checkIndex_df160 0 = .ok (.iload_n 0, 1) := by decide +kernel
theorem dJ0_checkIndex_df160_1 : decode cJ0_checkIndex_df160 1 = .ok (.iload_n 1, 1) := by decide +kernel
theorem dJ0_checkIndex_df160_2 : decode cJ0_checkIndex_df160 2 = .ok (.getstatic 1053, 3) := by decide +kernel
theorem dJ0_checkIndex_df160_5 : decode cJ0_checkIndex_df160 5 = .ok (.invokestatic 1059, 3) := by decide +kernel
theorem dJ0_checkIndex_df160_8 : decode cJ0_checkIndex_df160 8 = .ok (.pop, 1) := by decide +kernel
theorem dJ0_checkIndex_df160_9 : decode cJ0_checkIndex_df160 9 = .ok (.return_, 1) := by decide +kernel
theorem dJ1_charAt_3b067_0 : decode cJ1_charAt_3b067 0 = .ok (.iload_n 1, 1) := by decide +kernel
theorem dJ1_charAt_3b067_1 : decode cJ1_charAt_3b067 1 = .ok (.aload_n 0, 1) := by decide +kernel
theorem dJ1_charAt_3b067_2 : decode cJ1_charAt_3b067 2 = .ok (.arraylength, 1) := by decide +kernel
theorem dJ1_charAt_3b067_3 : decode cJ1_charAt_3b067 3 = .ok (.invokestatic 9, 3) := by decide +kernel
theorem dJ1_charAt_3b067_6 : decode cJ1_charAt_3b067 6 = .ok (.aload_n 0, 1) := by decide +kernel
theorem dJ1_charAt_3b067_7 : decode cJ1_charAt_3b067 7 = .ok (.iload_n 1, 1) := by decide +kernel
theorem dJ1_charAt_3b067_8 : decode cJ1_charAt_3b067 8 = .ok (.baload, 1) := by decide +kernel
theorem dJ1_charAt_3b067_9 : decode cJ1_charAt_3b067 9 = .ok (.sipush 255, 3) := by decide +kernel
theorem dJ1_charAt_3b067_12 : decode cJ1_charAt_3b067 12 = .ok (.iand, 1) := by decide +kernel
theorem dJ1_charAt_3b067_13 : decode cJ1_charAt_3b067 13 = .ok (.i2c, 1) := by decide +kernel
theorem dJ1_charAt_3b067_14 : decode cJ1_charAt_3b067 14 = .ok (.ireturn, 1) := by decide +kernel
theorem dJ3_checkIndex_8e157_0 : decode cJ3_checkIndex_8e157 0 = .ok (.iload_n 0, 1) := by decide +kernel
theorem dJ3_checkIndex_8e157_1 : decode cJ3_checkIndex_8e157 1 = .ok (.ifCond .lt 8, 3) := by decide +kernel
theorem dJ3_checkIndex_8e157_4 : decode cJ3_checkIndex_8e157 4 = .ok (.iload_n 0, 1) := by decide +kernel
theorem dJ3_checkIndex_8e157_5 : decode cJ3_checkIndex_8e157 5 = .ok (.iload_n 1, 1) := by decide +kernel
theorem dJ3_checkIndex_8e157_6 : decode cJ3_checkIndex_8e157 6 = .ok (.if_icmp .lt 10, 3) := by decide +kernel
theorem dJ3_checkIndex_8e157_16 : decode cJ3_checkIndex_8e157 16 = .ok (.iload_n 0, 1) := by decide +kernel
theorem dJ3_checkIndex_8e157_17 : decode cJ3_checkIndex_8e157 17 = .ok (.ireturn, 1) := by decide +kernel
theorem dL_appendText_0 : decode cL_appendText 0 = .ok (.aload 6, 2) := by decide +kernel
theorem dL_appendText_2 : decode cL_appendText 2 = .ok (.iconst 0, 1) := by decide +kernel
theorem dL_appendText_3 : decode cL_appendText 3 = .ok (.aload_n 0, 1) := by decide +kernel
theorem dL_appendText_4 : decode cL_appendText 4 = .ok (.iload_n 1, 1) := by decide +kernel
theorem dL_appendText_5 : decode cL_appendText 5 = .ok (.iload_n 2, 1) := by decide +kernel
theorem dL_appendText_6 : decode cL_appendText 6 = .ok (.iload_n 3, 1) := by decide +kernel
theorem dL_appendText_7 : decode cL_appendText 7 = .ok (.iload 4, 2) := by decide +kernel
theorem dL_appendText_9 : decode cL_appendText 9 = .ok (.iload 5, 2) := by decide +kernel
theorem dL_appendText_11 : decode cL_appendText 11 = .ok (.invokevirtual 7, 3) := by decide +kernel
theorem dL_appendText_14 : decode cL_appendText 14 = .ok (.i2l, 1) := by decide +kernel
theorem dL_appendText_15 : decode cL_appendText 15 = .ok (.lastore, 1) := by decide +kernel
theorem dL_appendText_16 : decode cL_appendText 16 = .ok (.goto 7, 3) := by decide +kernel
theorem dL_appendText_19 : decode cL_appendText 19 = .ok (.astore 7, 2) := by decide +kernel
theorem dL_appendText_21 : decode cL_appendText 21 = .ok (.iconst 1, 1) := by decide +kernel
theorem dL_appendText_22 : decode cL_appendText 22 = .ok (.ireturn, 1) := by decide +kernel
theorem dL_appendText_23 : decode cL_appendText 23 = .ok (.iconst 0, 1) := by decide +kernel
theorem dL_appendText_24 : decode cL_appendText 24 = .ok (.ireturn, 1) := by decide +kernel
theorem dL_truncateText_0 : decode cL_truncateText 0 = .ok (.aload_n 2, 1) := by decide +kernel
theorem dL_truncateText_1 : decode cL_truncateText 1 = .ok (.iconst 0, 1) := by decide +kernel
theorem dL_truncateText_2 : decode cL_truncateText 2 = .ok (.aload_n 0, 1) := by decide +kernel
theorem dL_truncateText_3 : decode cL_truncateText 3 = .ok (.iload_n 1, 1) := by decide +kernel
theorem dL_truncateText_4 : decode cL_truncateText 4 = .ok (.invokevirtual 15, 3) := by decide +kernel
theorem dL_truncateText_7 : decode cL_truncateText 7 = .ok (.i2l, 1) := by decide +kernel
theorem dL_truncateText_8 : decode cL_truncateText 8 = .ok (.lastore, 1) := by decide +kernel
theorem dL_truncateText_9 : decode cL_truncateText 9 = .ok (.goto 6, 3) := by decide +kernel
theorem dL_truncateText_12 : decode cL_truncateText 12 = .ok (.astore_n 3, 1) := by decide +kernel
theorem dL_truncateText_13 : decode cL_truncateText 13 = .ok (.iconst 1, 1) := by decide +kernel
theorem dL_truncateText_14 : decode cL_truncateText 14 = .ok (.ireturn, 1) := by decide +kernel
theorem dL_truncateText_15 : decode cL_truncateText 15 = .ok (.iconst 0, 1) := by decide +kernel
theorem dL_truncateText_16 : decode cL_truncateText 16 = .ok (.ireturn, 1) := by decide +kernel
theorem dL_subscribe_0 : decode cL_subscribe 0 = .ok (.aload_n 3, 1) := by decide +kernel
theorem dL_subscribe_1 : decode cL_subscribe 1 = .ok (.iconst 0, 1) := by decide +kernel
theorem dL_subscribe_2 : decode cL_subscribe 2 = .ok (.aload_n 0, 1) := by decide +kernel
theorem dL_subscribe_3 : decode cL_subscribe 3 = .ok (.iload_n 1, 1) := by decide +kernel
theorem dL_subscribe_4 : decode cL_subscribe 4 = .ok (.iload_n 2, 1) := by decide +kernel
theorem dL_subscribe_5 : decode cL_subscribe 5 = .ok (.invokevirtual 21, 3) := by decide +kernel
theorem dL_subscribe_8 : decode cL_subscribe 8 = .ok (.i2l, 1) := by decide +kernel
theorem dL_subscribe_9 : decode cL_subscribe 9 = .ok (.lastore, 1) := by decide +kernel
theorem dL_subscribe_10 : decode cL_subscribe 10 = .ok (.goto 15, 3) := by decide +kernel
theorem dL_subscribe_13 : decode cL_subscribe 13 = .ok (.astore 4, 2) := by decide +kernel
theorem dL_subscribe_15 : decode cL_subscribe 15 = .ok (.iconst 1, 1) := by decide +kernel
theorem dL_subscribe_16 : decode cL_subscribe 16 = .ok (.ireturn, 1) := by decide +kernel
theorem dL_subscribe_17 : decode cL_subscribe 17 = .ok (.astore 4, 2) := by decide +kernel
theorem dL_subscribe_19 : decode cL_subscribe 19 = .ok (.iconst 2, 1) := by decide +kernel
theorem dL_subscribe_20 : decode cL_subscribe 20 = .ok (.ireturn, 1) := by decide +kernel
theorem dL_subscribe_21 : decode cL_subscribe 21 = .ok (.astore 4, 2) := by decide +kernel
theorem dL_subscribe_23 : decode cL_subscribe 23 = .ok (.iconst 3, 1) := by decide +kernel
theorem dL_subscribe_24 : decode cL_subscribe 24 = .ok (.ireturn, 1) := by decide +kernel
theorem dL_subscribe_25 : decode cL_subscribe 25 = .ok (.iconst 0, 1) := by decide +kernel
theorem dL_subscribe_26 : decode cL_subscribe 26 = .ok (.ireturn, 1) := by decide +kernel
theorem dL_redeem_0 : decode cL_redeem 0 = .ok (.aload_n 3, 1) := by decide +kernel
theorem dL_redeem_1 : decode cL_redeem 1 = .ok (.iconst 0, 1) := by decide +kernel
theorem dL_redeem_2 : decode cL_redeem 2 = .ok (.aload_n 0, 1) := by decide +kernel
theorem dL_redeem_3 : decode cL_redeem 3 = .ok (.iload_n 1, 1) := by decide +kernel
theorem dL_redeem_4 : decode cL_redeem 4 = .ok (.iload_n 2, 1) := by decide +kernel
theorem dL_redeem_5 : decode cL_redeem 5 = .ok (.invokevirtual 27, 3) := by decide +kernel
theorem dL_redeem_8 : decode cL_redeem 8 = .ok (.i2l, 1) := by decide +kernel
theorem dL_redeem_9 : decode cL_redeem 9 = .ok (.lastore, 1) := by decide +kernel
theorem dL_redeem_10 : decode cL_redeem 10 = .ok (.goto 15, 3) := by decide +kernel
theorem dL_redeem_13 : decode cL_redeem 13 = .ok (.astore 4, 2) := by decide +kernel
theorem dL_redeem_15 : decode cL_redeem 15 = .ok (.iconst 1, 1) := by decide +kernel
theorem dL_redeem_16 : decode cL_redeem 16 = .ok (.ireturn, 1) := by decide +kernel
theorem dL_redeem_17 : decode cL_redeem 17 = .ok (.astore 4, 2) := by decide +kernel
theorem dL_redeem_19 : decode cL_redeem 19 = .ok (.iconst 2, 1) := by decide +kernel
theorem dL_redeem_20 : decode cL_redeem 20 = .ok (.ireturn, 1) := by decide +kernel
theorem dL_redeem_21 : decode cL_redeem 21 = .ok (.astore 4, 2) := by decide +kernel
theorem dL_redeem_23 : decode cL_redeem 23 = .ok (.iconst 3, 1) := by decide +kernel
theorem dL_redeem_24 : decode cL_redeem 24 = .ok (.ireturn, 1) := by decide +kernel
theorem dL_redeem_25 : decode cL_redeem 25 = .ok (.iconst 0, 1) := by decide +kernel
theorem dL_redeem_26 : decode cL_redeem 26 = .ok (.ireturn, 1) := by decide +kernel
theorem dL_withdraw_0 : decode cL_withdraw 0 = .ok (.aload_n 2, 1) := by decide +kernel
theorem dL_withdraw_1 : decode cL_withdraw 1 = .ok (.iconst 0, 1) := by decide +kernel
theorem dL_withdraw_2 : decode cL_withdraw 2 = .ok (.aload_n 0, 1) := by decide +kernel
theorem dL_withdraw_3 : decode cL_withdraw 3 = .ok (.iload_n 1, 1) := by decide +kernel
theorem dL_withdraw_4 : decode cL_withdraw 4 = .ok (.invokevirtual 30, 3) := by decide +kernel
theorem dL_withdraw_7 : decode cL_withdraw 7 = .ok (.lastore, 1) := by decide +kernel
theorem dL_withdraw_8 : decode cL_withdraw 8 = .ok (.goto 6, 3) := by decide +kernel
theorem dL_withdraw_11 : decode cL_withdraw 11 = .ok (.astore_n 3, 1) := by decide +kernel
theorem dL_withdraw_12 : decode cL_withdraw 12 = .ok (.iconst 1, 1) := by decide +kernel
theorem dL_withdraw_13 : decode cL_withdraw 13 = .ok (.ireturn, 1) := by decide +kernel
theorem dL_withdraw_14 : decode cL_withdraw 14 = .ok (.iconst 0, 1) := by decide +kernel
theorem dL_withdraw_15 : decode cL_withdraw 15 = .ok (.ireturn, 1) := by decide +kernel
theorem dL_earn_0 : decode cL_earn 0 = .ok (.aload_n 2, 1) := by decide +kernel
theorem dL_earn_1 : decode cL_earn 1 = .ok (.iconst 0, 1) := by decide +kernel
theorem dL_earn_2 : decode cL_earn 2 = .ok (.aload_n 0, 1) := by decide +kernel
theorem dL_earn_3 : decode cL_earn 3 = .ok (.iload_n 1, 1) := by decide +kernel
theorem dL_earn_4 : decode cL_earn 4 = .ok (.invokevirtual 34, 3) := by decide +kernel
theorem dL_earn_7 : decode cL_earn 7 = .ok (.lastore, 1) := by decide +kernel
theorem dL_earn_8 : decode cL_earn 8 = .ok (.goto 9, 3) := by decide +kernel
theorem dL_earn_11 : decode cL_earn 11 = .ok (.astore_n 3, 1) := by decide +kernel
theorem dL_earn_12 : decode cL_earn 12 = .ok (.iconst 1, 1) := by decide +kernel
theorem dL_earn_13 : decode cL_earn 13 = .ok (.ireturn, 1) := by decide +kernel
theorem dL_earn_14 : decode cL_earn 14 = .ok (.astore_n 3, 1) := by decide +kernel
theorem dL_earn_15 : decode cL_earn 15 = .ok (.iconst 2, 1) := by decide +kernel
theorem dL_earn_16 : decode cL_earn 16 = .ok (.ireturn, 1) := by decide +kernel
theorem dL_earn_17 : decode cL_earn 17 = .ok (.iconst 0, 1) := by decide +kernel
theorem dL_earn_18 : decode cL_earn 18 = .ok (.ireturn, 1) := by decide +kernel
theorem dL_passDays_0 : decode cL_passDays 0 = .ok (.aload_n 2, 1) := by decide +kernel
theorem dL_passDays_1 : decode cL_passDays 1 = .ok (.iconst 0, 1) := by decide +kernel
theorem dL_passDays_2 : decode cL_passDays 2 = .ok (.aload_n 0, 1) := by decide +kernel
theorem dL_passDays_3 : decode cL_passDays 3 = .ok (.iload_n 1, 1) := by decide +kernel
theorem dL_passDays_4 : decode cL_passDays 4 = .ok (.invokevirtual 37, 3) := by decide +kernel
theorem dL_passDays_7 : decode cL_passDays 7 = .ok (.lastore, 1) := by decide +kernel
theorem dL_passDays_8 : decode cL_passDays 8 = .ok (.goto 6, 3) := by decide +kernel
theorem dL_passDays_11 : decode cL_passDays 11 = .ok (.astore_n 3, 1) := by decide +kernel
theorem dL_passDays_12 : decode cL_passDays 12 = .ok (.iconst 1, 1) := by decide +kernel
theorem dL_passDays_13 : decode cL_passDays 13 = .ok (.ireturn, 1) := by decide +kernel
theorem dL_passDays_14 : decode cL_passDays 14 = .ok (.iconst 0, 1) := by decide +kernel
theorem dL_passDays_15 : decode cL_passDays 15 = .ok (.ireturn, 1) := by decide +kernel
theorem dL_transfer_0 : decode cL_transfer 0 = .ok (.aload 4, 2) := by decide +kernel
theorem dL_transfer_2 : decode cL_transfer 2 = .ok (.iconst 0, 1) := by decide +kernel
theorem dL_transfer_3 : decode cL_transfer 3 = .ok (.aload_n 0, 1) := by decide +kernel
theorem dL_transfer_4 : decode cL_transfer 4 = .ok (.iload_n 1, 1) := by decide +kernel
theorem dL_transfer_5 : decode cL_transfer 5 = .ok (.iload_n 2, 1) := by decide +kernel
theorem dL_transfer_6 : decode cL_transfer 6 = .ok (.iload_n 3, 1) := by decide +kernel
theorem dL_transfer_7 : decode cL_transfer 7 = .ok (.invokevirtual 40, 3) := by decide +kernel
theorem dL_transfer_10 : decode cL_transfer 10 = .ok (.lastore, 1) := by decide +kernel
theorem dL_transfer_11 : decode cL_transfer 11 = .ok (.goto 15, 3) := by decide +kernel
theorem dL_transfer_14 : decode cL_transfer 14 = .ok (.astore 5, 2) := by decide +kernel
theorem dL_transfer_16 : decode cL_transfer 16 = .ok (.iconst 1, 1) := by decide +kernel
theorem dL_transfer_17 : decode cL_transfer 17 = .ok (.ireturn, 1) := by decide +kernel
theorem dL_transfer_18 : decode cL_transfer 18 = .ok (.astore 5, 2) := by decide +kernel
theorem dL_transfer_20 : decode cL_transfer 20 = .ok (.iconst 2, 1) := by decide +kernel
theorem dL_transfer_21 : decode cL_transfer 21 = .ok (.ireturn, 1) := by decide +kernel
theorem dL_transfer_22 : decode cL_transfer 22 = .ok (.astore 5, 2) := by decide +kernel
theorem dL_transfer_24 : decode cL_transfer 24 = .ok (.iconst 3, 1) := by decide +kernel
theorem dL_transfer_25 : decode cL_transfer 25 = .ok (.ireturn, 1) := by decide +kernel
theorem dL_transfer_26 : decode cL_transfer 26 = .ok (.iconst 0, 1) := by decide +kernel
theorem dL_transfer_27 : decode cL_transfer 27 = .ok (.ireturn, 1) := by decide +kernel
theorem dL_setGate_0 : decode cL_setGate 0 = .ok (.aload_n 2, 1) := by decide +kernel
theorem dL_setGate_1 : decode cL_setGate 1 = .ok (.iconst 0, 1) := by decide +kernel
theorem dL_setGate_2 : decode cL_setGate 2 = .ok (.aload_n 0, 1) := by decide +kernel
theorem dL_setGate_3 : decode cL_setGate 3 = .ok (.iload_n 1, 1) := by decide +kernel
theorem dL_setGate_4 : decode cL_setGate 4 = .ok (.invokevirtual 44, 3) := by decide +kernel
theorem dL_setGate_7 : decode cL_setGate 7 = .ok (.i2l, 1) := by decide +kernel
theorem dL_setGate_8 : decode cL_setGate 8 = .ok (.lastore, 1) := by decide +kernel
theorem dL_setGate_9 : decode cL_setGate 9 = .ok (.goto 6, 3) := by decide +kernel
theorem dL_setGate_12 : decode cL_setGate 12 = .ok (.astore_n 3, 1) := by decide +kernel
theorem dL_setGate_13 : decode cL_setGate 13 = .ok (.iconst 1, 1) := by decide +kernel
theorem dL_setGate_14 : decode cL_setGate 14 = .ok (.ireturn, 1) := by decide +kernel
theorem dL_setGate_15 : decode cL_setGate 15 = .ok (.iconst 0, 1) := by decide +kernel
theorem dL_setGate_16 : decode cL_setGate 16 = .ok (.ireturn, 1) := by decide +kernel
theorem dL_count_0 : decode cL_count 0 = .ok (.aload_n 2, 1) := by decide +kernel
theorem dL_count_1 : decode cL_count 1 = .ok (.iconst 0, 1) := by decide +kernel
theorem dL_count_2 : decode cL_count 2 = .ok (.aload_n 0, 1) := by decide +kernel
theorem dL_count_3 : decode cL_count 3 = .ok (.iload_n 1, 1) := by decide +kernel
theorem dL_count_4 : decode cL_count 4 = .ok (.invokevirtual 47, 3) := by decide +kernel
theorem dL_count_7 : decode cL_count 7 = .ok (.i2l, 1) := by decide +kernel
theorem dL_count_8 : decode cL_count 8 = .ok (.lastore, 1) := by decide +kernel
theorem dL_count_9 : decode cL_count 9 = .ok (.goto 6, 3) := by decide +kernel
theorem dL_count_12 : decode cL_count 12 = .ok (.astore_n 3, 1) := by decide +kernel
theorem dL_count_13 : decode cL_count 13 = .ok (.iconst 1, 1) := by decide +kernel
theorem dL_count_14 : decode cL_count 14 = .ok (.ireturn, 1) := by decide +kernel
theorem dL_count_15 : decode cL_count 15 = .ok (.iconst 0, 1) := by decide +kernel
theorem dL_count_16 : decode cL_count 16 = .ok (.ireturn, 1) := by decide +kernel
theorem dL_account_0 : decode cL_account 0 = .ok (.aload_n 2, 1) := by decide +kernel
theorem dL_account_1 : decode cL_account 1 = .ok (.iconst 0, 1) := by decide +kernel
theorem dL_account_2 : decode cL_account 2 = .ok (.aload_n 0, 1) := by decide +kernel
theorem dL_account_3 : decode cL_account 3 = .ok (.iload_n 1, 1) := by decide +kernel
theorem dL_account_4 : decode cL_account 4 = .ok (.invokevirtual 50, 3) := by decide +kernel
theorem dL_account_7 : decode cL_account 7 = .ok (.lastore, 1) := by decide +kernel
theorem dL_account_8 : decode cL_account 8 = .ok (.goto 6, 3) := by decide +kernel
theorem dL_account_11 : decode cL_account 11 = .ok (.astore_n 3, 1) := by decide +kernel
theorem dL_account_12 : decode cL_account 12 = .ok (.iconst 1, 1) := by decide +kernel
theorem dL_account_13 : decode cL_account 13 = .ok (.ireturn, 1) := by decide +kernel
theorem dL_account_14 : decode cL_account 14 = .ok (.iconst 0, 1) := by decide +kernel
theorem dL_account_15 : decode cL_account 15 = .ok (.ireturn, 1) := by decide +kernel
theorem dL_openSeries_0 : decode cL_openSeries 0 = .ok (.aload_n 2, 1) := by decide +kernel
theorem dL_openSeries_1 : decode cL_openSeries 1 = .ok (.iconst 0, 1) := by decide +kernel
theorem dL_openSeries_2 : decode cL_openSeries 2 = .ok (.aload_n 0, 1) := by decide +kernel
theorem dL_openSeries_3 : decode cL_openSeries 3 = .ok (.iload_n 1, 1) := by decide +kernel
theorem dL_openSeries_4 : decode cL_openSeries 4 = .ok (.invokevirtual 53, 3) := by decide +kernel
theorem dL_openSeries_7 : decode cL_openSeries 7 = .ok (.i2l, 1) := by decide +kernel
theorem dL_openSeries_8 : decode cL_openSeries 8 = .ok (.lastore, 1) := by decide +kernel
theorem dL_openSeries_9 : decode cL_openSeries 9 = .ok (.goto 6, 3) := by decide +kernel
theorem dL_openSeries_12 : decode cL_openSeries 12 = .ok (.astore_n 3, 1) := by decide +kernel
theorem dL_openSeries_13 : decode cL_openSeries 13 = .ok (.iconst 1, 1) := by decide +kernel
theorem dL_openSeries_14 : decode cL_openSeries 14 = .ok (.ireturn, 1) := by decide +kernel
theorem dL_openSeries_15 : decode cL_openSeries 15 = .ok (.iconst 0, 1) := by decide +kernel
theorem dL_openSeries_16 : decode cL_openSeries 16 = .ok (.ireturn, 1) := by decide +kernel
theorem dL_seriesValue_0 : decode cL_seriesValue 0 = .ok (.aload_n 3, 1) := by decide +kernel
theorem dL_seriesValue_1 : decode cL_seriesValue 1 = .ok (.iconst 0, 1) := by decide +kernel
theorem dL_seriesValue_2 : decode cL_seriesValue 2 = .ok (.aload_n 0, 1) := by decide +kernel
theorem dL_seriesValue_3 : decode cL_seriesValue 3 = .ok (.iload_n 1, 1) := by decide +kernel
theorem dL_seriesValue_4 : decode cL_seriesValue 4 = .ok (.iload_n 2, 1) := by decide +kernel
theorem dL_seriesValue_5 : decode cL_seriesValue 5 = .ok (.invokevirtual 56, 3) := by decide +kernel
theorem dL_seriesValue_8 : decode cL_seriesValue 8 = .ok (.lastore, 1) := by decide +kernel
theorem dL_seriesValue_9 : decode cL_seriesValue 9 = .ok (.goto 11, 3) := by decide +kernel
theorem dL_seriesValue_12 : decode cL_seriesValue 12 = .ok (.astore 4, 2) := by decide +kernel
theorem dL_seriesValue_14 : decode cL_seriesValue 14 = .ok (.iconst 1, 1) := by decide +kernel
theorem dL_seriesValue_15 : decode cL_seriesValue 15 = .ok (.ireturn, 1) := by decide +kernel
theorem dL_seriesValue_16 : decode cL_seriesValue 16 = .ok (.astore 4, 2) := by decide +kernel
theorem dL_seriesValue_18 : decode cL_seriesValue 18 = .ok (.iconst 2, 1) := by decide +kernel
theorem dL_seriesValue_19 : decode cL_seriesValue 19 = .ok (.ireturn, 1) := by decide +kernel
theorem dL_seriesValue_20 : decode cL_seriesValue 20 = .ok (.iconst 0, 1) := by decide +kernel
theorem dL_seriesValue_21 : decode cL_seriesValue 21 = .ok (.ireturn, 1) := by decide +kernel
theorem dL_lot_0 : decode cL_lot 0 = .ok (.aload_n 3, 1) := by decide +kernel
theorem dL_lot_1 : decode cL_lot 1 = .ok (.iconst 0, 1) := by decide +kernel
theorem dL_lot_2 : decode cL_lot 2 = .ok (.aload_n 0, 1) := by decide +kernel
theorem dL_lot_3 : decode cL_lot 3 = .ok (.iload_n 1, 1) := by decide +kernel
theorem dL_lot_4 : decode cL_lot 4 = .ok (.iload_n 2, 1) := by decide +kernel
theorem dL_lot_5 : decode cL_lot 5 = .ok (.invokevirtual 60, 3) := by decide +kernel
theorem dL_lot_8 : decode cL_lot 8 = .ok (.lastore, 1) := by decide +kernel
theorem dL_lot_9 : decode cL_lot 9 = .ok (.goto 11, 3) := by decide +kernel
theorem dL_lot_12 : decode cL_lot 12 = .ok (.astore 4, 2) := by decide +kernel
theorem dL_lot_14 : decode cL_lot 14 = .ok (.iconst 1, 1) := by decide +kernel
theorem dL_lot_15 : decode cL_lot 15 = .ok (.ireturn, 1) := by decide +kernel
theorem dL_lot_16 : decode cL_lot 16 = .ok (.astore 4, 2) := by decide +kernel
theorem dL_lot_18 : decode cL_lot 18 = .ok (.iconst 2, 1) := by decide +kernel
theorem dL_lot_19 : decode cL_lot 19 = .ok (.ireturn, 1) := by decide +kernel
theorem dL_lot_20 : decode cL_lot 20 = .ok (.iconst 0, 1) := by decide +kernel
theorem dL_lot_21 : decode cL_lot 21 = .ok (.ireturn, 1) := by decide +kernel
theorem dL_request_0 : decode cL_request 0 = .ok (.aload_n 3, 1) := by decide +kernel
theorem dL_request_1 : decode cL_request 1 = .ok (.iconst 0, 1) := by decide +kernel
theorem dL_request_2 : decode cL_request 2 = .ok (.aload_n 0, 1) := by decide +kernel
theorem dL_request_3 : decode cL_request 3 = .ok (.iload_n 1, 1) := by decide +kernel
theorem dL_request_4 : decode cL_request 4 = .ok (.iload_n 2, 1) := by decide +kernel
theorem dL_request_5 : decode cL_request 5 = .ok (.invokevirtual 63, 3) := by decide +kernel
theorem dL_request_8 : decode cL_request 8 = .ok (.lastore, 1) := by decide +kernel
theorem dL_request_9 : decode cL_request 9 = .ok (.goto 11, 3) := by decide +kernel
theorem dL_request_12 : decode cL_request 12 = .ok (.astore 4, 2) := by decide +kernel
theorem dL_request_14 : decode cL_request 14 = .ok (.iconst 1, 1) := by decide +kernel
theorem dL_request_15 : decode cL_request 15 = .ok (.ireturn, 1) := by decide +kernel
theorem dL_request_16 : decode cL_request 16 = .ok (.astore 4, 2) := by decide +kernel
theorem dL_request_18 : decode cL_request 18 = .ok (.iconst 2, 1) := by decide +kernel
theorem dL_request_19 : decode cL_request 19 = .ok (.ireturn, 1) := by decide +kernel
theorem dL_request_20 : decode cL_request 20 = .ok (.iconst 0, 1) := by decide +kernel
theorem dL_request_21 : decode cL_request 21 = .ok (.ireturn, 1) := by decide +kernel
theorem dL_unitsOf_0 : decode cL_unitsOf 0 = .ok (.aload_n 2, 1) := by decide +kernel
theorem dL_unitsOf_1 : decode cL_unitsOf 1 = .ok (.iconst 0, 1) := by decide +kernel
theorem dL_unitsOf_2 : decode cL_unitsOf 2 = .ok (.aload_n 0, 1) := by decide +kernel
theorem dL_unitsOf_3 : decode cL_unitsOf 3 = .ok (.iload_n 1, 1) := by decide +kernel
theorem dL_unitsOf_4 : decode cL_unitsOf 4 = .ok (.invokevirtual 66, 3) := by decide +kernel
theorem dL_unitsOf_7 : decode cL_unitsOf 7 = .ok (.lastore, 1) := by decide +kernel
theorem dL_unitsOf_8 : decode cL_unitsOf 8 = .ok (.goto 6, 3) := by decide +kernel
theorem dL_unitsOf_11 : decode cL_unitsOf 11 = .ok (.astore_n 3, 1) := by decide +kernel
theorem dL_unitsOf_12 : decode cL_unitsOf 12 = .ok (.iconst 1, 1) := by decide +kernel
theorem dL_unitsOf_13 : decode cL_unitsOf 13 = .ok (.ireturn, 1) := by decide +kernel
theorem dL_unitsOf_14 : decode cL_unitsOf 14 = .ok (.iconst 0, 1) := by decide +kernel
theorem dL_unitsOf_15 : decode cL_unitsOf 15 = .ok (.ireturn, 1) := by decide +kernel
theorem dL_holding_0 : decode cL_holding 0 = .ok (.aload_n 3, 1) := by decide +kernel
theorem dL_holding_1 : decode cL_holding 1 = .ok (.iconst 0, 1) := by decide +kernel
theorem dL_holding_2 : decode cL_holding 2 = .ok (.aload_n 0, 1) := by decide +kernel
theorem dL_holding_3 : decode cL_holding 3 = .ok (.iload_n 1, 1) := by decide +kernel
theorem dL_holding_4 : decode cL_holding 4 = .ok (.iload_n 2, 1) := by decide +kernel
theorem dL_holding_5 : decode cL_holding 5 = .ok (.invokevirtual 69, 3) := by decide +kernel
theorem dL_holding_8 : decode cL_holding 8 = .ok (.lastore, 1) := by decide +kernel
theorem dL_holding_9 : decode cL_holding 9 = .ok (.goto 7, 3) := by decide +kernel
theorem dL_holding_12 : decode cL_holding 12 = .ok (.astore 4, 2) := by decide +kernel
theorem dL_holding_14 : decode cL_holding 14 = .ok (.iconst 1, 1) := by decide +kernel
theorem dL_holding_15 : decode cL_holding 15 = .ok (.ireturn, 1) := by decide +kernel
theorem dL_holding_16 : decode cL_holding 16 = .ok (.iconst 0, 1) := by decide +kernel
theorem dL_holding_17 : decode cL_holding 17 = .ok (.ireturn, 1) := by decide +kernel
theorem dL_valueOf_0 : decode cL_valueOf 0 = .ok (.aload_n 2, 1) := by decide +kernel
theorem dL_valueOf_1 : decode cL_valueOf 1 = .ok (.iconst 0, 1) := by decide +kernel
theorem dL_valueOf_2 : decode cL_valueOf 2 = .ok (.aload_n 0, 1) := by decide +kernel
theorem dL_valueOf_3 : decode cL_valueOf 3 = .ok (.iload_n 1, 1) := by decide +kernel
theorem dL_valueOf_4 : decode cL_valueOf 4 = .ok (.invokevirtual 72, 3) := by decide +kernel
theorem dL_valueOf_7 : decode cL_valueOf 7 = .ok (.lastore, 1) := by decide +kernel
theorem dL_valueOf_8 : decode cL_valueOf 8 = .ok (.goto 6, 3) := by decide +kernel
theorem dL_valueOf_11 : decode cL_valueOf 11 = .ok (.astore_n 3, 1) := by decide +kernel
theorem dL_valueOf_12 : decode cL_valueOf 12 = .ok (.iconst 1, 1) := by decide +kernel
theorem dL_valueOf_13 : decode cL_valueOf 13 = .ok (.ireturn, 1) := by decide +kernel
theorem dL_valueOf_14 : decode cL_valueOf 14 = .ok (.iconst 0, 1) := by decide +kernel
theorem dL_valueOf_15 : decode cL_valueOf 15 = .ok (.ireturn, 1) := by decide +kernel
theorem dL_richest_0 : decode cL_richest 0 = .ok (.aload_n 2, 1) := by decide +kernel
theorem dL_richest_1 : decode cL_richest 1 = .ok (.iconst 0, 1) := by decide +kernel
theorem dL_richest_2 : decode cL_richest 2 = .ok (.aload_n 0, 1) := by decide +kernel
theorem dL_richest_3 : decode cL_richest 3 = .ok (.iload_n 1, 1) := by decide +kernel
theorem dL_richest_4 : decode cL_richest 4 = .ok (.invokevirtual 75, 3) := by decide +kernel
theorem dL_richest_7 : decode cL_richest 7 = .ok (.i2l, 1) := by decide +kernel
theorem dL_richest_8 : decode cL_richest 8 = .ok (.lastore, 1) := by decide +kernel
theorem dL_richest_9 : decode cL_richest 9 = .ok (.goto 6, 3) := by decide +kernel
theorem dL_richest_12 : decode cL_richest 12 = .ok (.astore_n 3, 1) := by decide +kernel
theorem dL_richest_13 : decode cL_richest 13 = .ok (.iconst 1, 1) := by decide +kernel
theorem dL_richest_14 : decode cL_richest 14 = .ok (.ireturn, 1) := by decide +kernel
theorem dL_richest_15 : decode cL_richest 15 = .ok (.iconst 0, 1) := by decide +kernel
theorem dL_richest_16 : decode cL_richest 16 = .ok (.ireturn, 1) := by decide +kernel
theorem dL_share_0 : decode cL_share 0 = .ok (.aload_n 2, 1) := by decide +kernel
theorem dL_share_1 : decode cL_share 1 = .ok (.iconst 0, 1) := by decide +kernel
theorem dL_share_2 : decode cL_share 2 = .ok (.aload_n 0, 1) := by decide +kernel
theorem dL_share_3 : decode cL_share 3 = .ok (.iload_n 1, 1) := by decide +kernel
theorem dL_share_4 : decode cL_share 4 = .ok (.invokevirtual 78, 3) := by decide +kernel
theorem dL_share_7 : decode cL_share 7 = .ok (.dastore, 1) := by decide +kernel
theorem dL_share_8 : decode cL_share 8 = .ok (.goto 9, 3) := by decide +kernel
theorem dL_share_11 : decode cL_share 11 = .ok (.astore_n 3, 1) := by decide +kernel
theorem dL_share_12 : decode cL_share 12 = .ok (.iconst 1, 1) := by decide +kernel
theorem dL_share_13 : decode cL_share 13 = .ok (.ireturn, 1) := by decide +kernel
theorem dL_share_14 : decode cL_share 14 = .ok (.astore_n 3, 1) := by decide +kernel
theorem dL_share_15 : decode cL_share 15 = .ok (.iconst 2, 1) := by decide +kernel
theorem dL_share_16 : decode cL_share 16 = .ok (.ireturn, 1) := by decide +kernel
theorem dL_share_17 : decode cL_share 17 = .ok (.iconst 0, 1) := by decide +kernel
theorem dL_share_18 : decode cL_share 18 = .ok (.ireturn, 1) := by decide +kernel
theorem dL_wouldRedeem_0 : decode cL_wouldRedeem 0 = .ok (.aload_n 2, 1) := by decide +kernel
theorem dL_wouldRedeem_1 : decode cL_wouldRedeem 1 = .ok (.iconst 0, 1) := by decide +kernel
theorem dL_wouldRedeem_2 : decode cL_wouldRedeem 2 = .ok (.aload_n 0, 1) := by decide +kernel
theorem dL_wouldRedeem_3 : decode cL_wouldRedeem 3 = .ok (.iload_n 1, 1) := by decide +kernel
theorem dL_wouldRedeem_4 : decode cL_wouldRedeem 4 = .ok (.invokevirtual 84, 3) := by decide +kernel
theorem dL_wouldRedeem_7 : decode cL_wouldRedeem 7 = .ok (.lastore, 1) := by decide +kernel
theorem dL_wouldRedeem_8 : decode cL_wouldRedeem 8 = .ok (.goto 6, 3) := by decide +kernel
theorem dL_wouldRedeem_11 : decode cL_wouldRedeem 11 = .ok (.astore_n 3, 1) := by decide +kernel
theorem dL_wouldRedeem_12 : decode cL_wouldRedeem 12 = .ok (.iconst 1, 1) := by decide +kernel
theorem dL_wouldRedeem_13 : decode cL_wouldRedeem 13 = .ok (.ireturn, 1) := by decide +kernel
theorem dL_wouldRedeem_14 : decode cL_wouldRedeem 14 = .ok (.iconst 0, 1) := by decide +kernel
theorem dL_wouldRedeem_15 : decode cL_wouldRedeem 15 = .ok (.ireturn, 1) := by decide +kernel
theorem dL_dealsUntilDone_0 : decode cL_dealsUntilDone 0 = .ok (.aload_n 2, 1) := by decide +kernel
theorem dL_dealsUntilDone_1 : decode cL_dealsUntilDone 1 = .ok (.iconst 0, 1) := by decide +kernel
theorem dL_dealsUntilDone_2 : decode cL_dealsUntilDone 2 = .ok (.aload_n 0, 1) := by decide +kernel
theorem dL_dealsUntilDone_3 : decode cL_dealsUntilDone 3 = .ok (.iload_n 1, 1) := by decide +kernel
theorem dL_dealsUntilDone_4 : decode cL_dealsUntilDone 4 = .ok (.invokevirtual 87, 3) := by decide +kernel
theorem dL_dealsUntilDone_7 : decode cL_dealsUntilDone 7 = .ok (.i2l, 1) := by decide +kernel
theorem dL_dealsUntilDone_8 : decode cL_dealsUntilDone 8 = .ok (.lastore, 1) := by decide +kernel
theorem dL_dealsUntilDone_9 : decode cL_dealsUntilDone 9 = .ok (.goto 6, 3) := by decide +kernel
theorem dL_dealsUntilDone_12 : decode cL_dealsUntilDone 12 = .ok (.astore_n 3, 1) := by decide +kernel
theorem dL_dealsUntilDone_13 : decode cL_dealsUntilDone 13 = .ok (.iconst 1, 1) := by decide +kernel
theorem dL_dealsUntilDone_14 : decode cL_dealsUntilDone 14 = .ok (.ireturn, 1) := by decide +kernel
theorem dL_dealsUntilDone_15 : decode cL_dealsUntilDone 15 = .ok (.iconst 0, 1) := by decide +kernel
theorem dL_dealsUntilDone_16 : decode cL_dealsUntilDone 16 = .ok (.ireturn, 1) := by decide +kernel
theorem dL_feesIf_0 : decode cL_feesIf 0 = .ok (.aload_n 2, 1) := by decide +kernel
theorem dL_feesIf_1 : decode cL_feesIf 1 = .ok (.iconst 0, 1) := by decide +kernel
theorem dL_feesIf_2 : decode cL_feesIf 2 = .ok (.aload_n 0, 1) := by decide +kernel
theorem dL_feesIf_3 : decode cL_feesIf 3 = .ok (.iload_n 1, 1) := by decide +kernel
theorem dL_feesIf_4 : decode cL_feesIf 4 = .ok (.invokevirtual 90, 3) := by decide +kernel
theorem dL_feesIf_7 : decode cL_feesIf 7 = .ok (.lastore, 1) := by decide +kernel
theorem dL_feesIf_8 : decode cL_feesIf 8 = .ok (.goto 6, 3) := by decide +kernel
theorem dL_feesIf_11 : decode cL_feesIf 11 = .ok (.astore_n 3, 1) := by decide +kernel
theorem dL_feesIf_12 : decode cL_feesIf 12 = .ok (.iconst 1, 1) := by decide +kernel
theorem dL_feesIf_13 : decode cL_feesIf 13 = .ok (.ireturn, 1) := by decide +kernel
theorem dL_feesIf_14 : decode cL_feesIf 14 = .ok (.iconst 0, 1) := by decide +kernel
theorem dL_feesIf_15 : decode cL_feesIf 15 = .ok (.ireturn, 1) := by decide +kernel
theorem dL_breakEven_0 : decode cL_breakEven 0 = .ok (.aload_n 2, 1) := by decide +kernel
theorem dL_breakEven_1 : decode cL_breakEven 1 = .ok (.iconst 0, 1) := by decide +kernel
theorem dL_breakEven_2 : decode cL_breakEven 2 = .ok (.aload_n 0, 1) := by decide +kernel
theorem dL_breakEven_3 : decode cL_breakEven 3 = .ok (.iload_n 1, 1) := by decide +kernel
theorem dL_breakEven_4 : decode cL_breakEven 4 = .ok (.invokevirtual 93, 3) := by decide +kernel
theorem dL_breakEven_7 : decode cL_breakEven 7 = .ok (.i2l, 1) := by decide +kernel
theorem dL_breakEven_8 : decode cL_breakEven 8 = .ok (.lastore, 1) := by decide +kernel
theorem dL_breakEven_9 : decode cL_breakEven 9 = .ok (.goto 9, 3) := by decide +kernel
theorem dL_breakEven_12 : decode cL_breakEven 12 = .ok (.astore_n 3, 1) := by decide +kernel
theorem dL_breakEven_13 : decode cL_breakEven 13 = .ok (.iconst 1, 1) := by decide +kernel
theorem dL_breakEven_14 : decode cL_breakEven 14 = .ok (.ireturn, 1) := by decide +kernel
theorem dL_breakEven_15 : decode cL_breakEven 15 = .ok (.astore_n 3, 1) := by decide +kernel
theorem dL_breakEven_16 : decode cL_breakEven 16 = .ok (.iconst 2, 1) := by decide +kernel
theorem dL_breakEven_17 : decode cL_breakEven 17 = .ok (.ireturn, 1) := by decide +kernel
theorem dL_breakEven_18 : decode cL_breakEven 18 = .ok (.iconst 0, 1) := by decide +kernel
theorem dL_breakEven_19 : decode cL_breakEven 19 = .ok (.ireturn, 1) := by decide +kernel
theorem dL_rateFor_0 : decode cL_rateFor 0 = .ok (.aload 4, 2) := by decide +kernel
theorem dL_rateFor_2 : decode cL_rateFor 2 = .ok (.iconst 0, 1) := by decide +kernel
theorem dL_rateFor_3 : decode cL_rateFor 3 = .ok (.aload_n 0, 1) := by decide +kernel
theorem dL_rateFor_4 : decode cL_rateFor 4 = .ok (.iload_n 1, 1) := by decide +kernel
theorem dL_rateFor_5 : decode cL_rateFor 5 = .ok (.lload_n 2, 1) := by decide +kernel
theorem dL_rateFor_6 : decode cL_rateFor 6 = .ok (.invokevirtual 98, 3) := by decide +kernel
theorem dL_rateFor_9 : decode cL_rateFor 9 = .ok (.i2l, 1) := by decide +kernel
theorem dL_rateFor_10 : decode cL_rateFor 10 = .ok (.lastore, 1) := by decide +kernel
theorem dL_rateFor_11 : decode cL_rateFor 11 = .ok (.goto 11, 3) := by decide +kernel
theorem dL_rateFor_14 : decode cL_rateFor 14 = .ok (.astore 5, 2) := by decide +kernel
theorem dL_rateFor_16 : decode cL_rateFor 16 = .ok (.iconst 1, 1) := by decide +kernel
theorem dL_rateFor_17 : decode cL_rateFor 17 = .ok (.ireturn, 1) := by decide +kernel
theorem dL_rateFor_18 : decode cL_rateFor 18 = .ok (.astore 5, 2) := by decide +kernel
theorem dL_rateFor_20 : decode cL_rateFor 20 = .ok (.iconst 2, 1) := by decide +kernel
theorem dL_rateFor_21 : decode cL_rateFor 21 = .ok (.ireturn, 1) := by decide +kernel
theorem dL_rateFor_22 : decode cL_rateFor 22 = .ok (.iconst 0, 1) := by decide +kernel
theorem dL_rateFor_23 : decode cL_rateFor 23 = .ok (.ireturn, 1) := by decide +kernel
theorem dL_daysUntil_0 : decode cL_daysUntil 0 = .ok (.aload_n 3, 1) := by decide +kernel
theorem dL_daysUntil_1 : decode cL_daysUntil 1 = .ok (.iconst 0, 1) := by decide +kernel
theorem dL_daysUntil_2 : decode cL_daysUntil 2 = .ok (.aload_n 0, 1) := by decide +kernel
theorem dL_daysUntil_3 : decode cL_daysUntil 3 = .ok (.lload_n 1, 1) := by decide +kernel
theorem dL_daysUntil_4 : decode cL_daysUntil 4 = .ok (.invokevirtual 102, 3) := by decide +kernel
theorem dL_daysUntil_7 : decode cL_daysUntil 7 = .ok (.i2l, 1) := by decide +kernel
theorem dL_daysUntil_8 : decode cL_daysUntil 8 = .ok (.lastore, 1) := by decide +kernel
theorem dL_daysUntil_9 : decode cL_daysUntil 9 = .ok (.goto 7, 3) := by decide +kernel
theorem dL_daysUntil_12 : decode cL_daysUntil 12 = .ok (.astore 4, 2) := by decide +kernel
theorem dL_daysUntil_14 : decode cL_daysUntil 14 = .ok (.iconst 1, 1) := by decide +kernel
theorem dL_daysUntil_15 : decode cL_daysUntil 15 = .ok (.ireturn, 1) := by decide +kernel
theorem dL_daysUntil_16 : decode cL_daysUntil 16 = .ok (.iconst 0, 1) := by decide +kernel
theorem dL_daysUntil_17 : decode cL_daysUntil 17 = .ok (.ireturn, 1) := by decide +kernel
theorem dL_bestGate_0 : decode cL_bestGate 0 = .ok (.aload_n 2, 1) := by decide +kernel
theorem dL_bestGate_1 : decode cL_bestGate 1 = .ok (.iconst 0, 1) := by decide +kernel
theorem dL_bestGate_2 : decode cL_bestGate 2 = .ok (.aload_n 0, 1) := by decide +kernel
theorem dL_bestGate_3 : decode cL_bestGate 3 = .ok (.iload_n 1, 1) := by decide +kernel
theorem dL_bestGate_4 : decode cL_bestGate 4 = .ok (.invokevirtual 106, 3) := by decide +kernel
theorem dL_bestGate_7 : decode cL_bestGate 7 = .ok (.i2l, 1) := by decide +kernel
theorem dL_bestGate_8 : decode cL_bestGate 8 = .ok (.lastore, 1) := by decide +kernel
theorem dL_bestGate_9 : decode cL_bestGate 9 = .ok (.goto 6, 3) := by decide +kernel
theorem dL_bestGate_12 : decode cL_bestGate 12 = .ok (.astore_n 3, 1) := by decide +kernel
theorem dL_bestGate_13 : decode cL_bestGate 13 = .ok (.iconst 1, 1) := by decide +kernel
theorem dL_bestGate_14 : decode cL_bestGate 14 = .ok (.ireturn, 1) := by decide +kernel
theorem dL_bestGate_15 : decode cL_bestGate 15 = .ok (.iconst 0, 1) := by decide +kernel
theorem dL_bestGate_16 : decode cL_bestGate 16 = .ok (.ireturn, 1) := by decide +kernel
theorem dL_reportByte_0 : decode cL_reportByte 0 = .ok (.aload_n 2, 1) := by decide +kernel
theorem dL_reportByte_1 : decode cL_reportByte 1 = .ok (.iconst 0, 1) := by decide +kernel
theorem dL_reportByte_2 : decode cL_reportByte 2 = .ok (.aload_n 0, 1) := by decide +kernel
theorem dL_reportByte_3 : decode cL_reportByte 3 = .ok (.iload_n 1, 1) := by decide +kernel
theorem dL_reportByte_4 : decode cL_reportByte 4 = .ok (.invokevirtual 109, 3) := by decide +kernel
theorem dL_reportByte_7 : decode cL_reportByte 7 = .ok (.i2l, 1) := by decide +kernel
theorem dL_reportByte_8 : decode cL_reportByte 8 = .ok (.lastore, 1) := by decide +kernel
theorem dL_reportByte_9 : decode cL_reportByte 9 = .ok (.goto 6, 3) := by decide +kernel
theorem dL_reportByte_12 : decode cL_reportByte 12 = .ok (.astore_n 3, 1) := by decide +kernel
theorem dL_reportByte_13 : decode cL_reportByte 13 = .ok (.iconst 1, 1) := by decide +kernel
theorem dL_reportByte_14 : decode cL_reportByte 14 = .ok (.ireturn, 1) := by decide +kernel
theorem dL_reportByte_15 : decode cL_reportByte 15 = .ok (.iconst 0, 1) := by decide +kernel
theorem dL_reportByte_16 : decode cL_reportByte 16 = .ok (.ireturn, 1) := by decide +kernel
theorem dL_undo_0 : decode cL_undo 0 = .ok (.aload_n 1, 1) := by decide +kernel
theorem dL_undo_1 : decode cL_undo 1 = .ok (.iconst 0, 1) := by decide +kernel
theorem dL_undo_2 : decode cL_undo 2 = .ok (.aload_n 0, 1) := by decide +kernel
theorem dL_undo_3 : decode cL_undo 3 = .ok (.invokevirtual 112, 3) := by decide +kernel
theorem dL_undo_6 : decode cL_undo 6 = .ok (.i2l, 1) := by decide +kernel
theorem dL_undo_7 : decode cL_undo 7 = .ok (.lastore, 1) := by decide +kernel
theorem dL_undo_8 : decode cL_undo 8 = .ok (.goto 6, 3) := by decide +kernel
theorem dL_undo_11 : decode cL_undo 11 = .ok (.astore_n 2, 1) := by decide +kernel
theorem dL_undo_12 : decode cL_undo 12 = .ok (.iconst 1, 1) := by decide +kernel
theorem dL_undo_13 : decode cL_undo 13 = .ok (.ireturn, 1) := by decide +kernel
theorem dL_undo_14 : decode cL_undo 14 = .ok (.iconst 0, 1) := by decide +kernel
theorem dL_undo_15 : decode cL_undo 15 = .ok (.ireturn, 1) := by decide +kernel
theorem dL_law_0 : decode cL_law 0 = .ok (.new 8, 3) := by decide +kernel
theorem dL_law_3 : decode cL_law 3 = .ok (.dup, 1) := by decide +kernel
theorem dL_law_4 : decode cL_law 4 = .ok (.invokespecial 116, 3) := by decide +kernel
theorem dL_law_7 : decode cL_law 7 = .ok (.astore_n 1, 1) := by decide +kernel
theorem dL_law_8 : decode cL_law 8 = .ok (.new 117, 3) := by decide +kernel
theorem dL_law_11 : decode cL_law 11 = .ok (.dup, 1) := by decide +kernel
theorem dL_law_12 : decode cL_law 12 = .ok (.invokespecial 119, 3) := by decide +kernel
theorem dL_law_15 : decode cL_law 15 = .ok (.astore_n 2, 1) := by decide +kernel
theorem dL_law_16 : decode cL_law 16 = .ok (.iconst 1, 1) := by decide +kernel
theorem dL_law_17 : decode cL_law 17 = .ok (.newarray .long, 2) := by decide +kernel
theorem dL_law_19 : decode cL_law 19 = .ok (.astore_n 3, 1) := by decide +kernel
theorem dL_law_20 : decode cL_law 20 = .ok (.iconst 1, 1) := by decide +kernel
theorem dL_law_21 : decode cL_law 21 = .ok (.newarray .double, 2) := by decide +kernel
theorem dL_law_23 : decode cL_law 23 = .ok (.astore 4, 2) := by decide +kernel
theorem dL_law_25 : decode cL_law 25 = .ok (.iconst 0, 1) := by decide +kernel
theorem dL_law_26 : decode cL_law 26 = .ok (.istore 5, 2) := by decide +kernel
theorem dL_law_28 : decode cL_law 28 = .ok (.iload 5, 2) := by decide +kernel
theorem dL_law_30 : decode cL_law 30 = .ok (.aload_n 0, 1) := by decide +kernel
theorem dL_law_31 : decode cL_law 31 = .ok (.arraylength, 1) := by decide +kernel
theorem dL_law_32 : decode cL_law 32 = .ok (.bipush 6, 2) := by decide +kernel
theorem dL_law_34 : decode cL_law 34 = .ok (.isub, 1) := by decide +kernel
theorem dL_law_35 : decode cL_law 35 = .ok (.if_icmp .gt 2230, 3) := by decide +kernel
theorem dL_law_38 : decode cL_law 38 = .ok (.aload_n 0, 1) := by decide +kernel
theorem dL_law_39 : decode cL_law 39 = .ok (.iload 5, 2) := by decide +kernel
theorem dL_law_41 : decode cL_law 41 = .ok (.iaload, 1) := by decide +kernel
theorem dL_law_42 : decode cL_law 42 = .ok (.bipush 63, 2) := by decide +kernel
theorem dL_law_44 : decode cL_law 44 = .ok (.iand, 1) := by decide +kernel
theorem dL_law_45 : decode cL_law 45 = .ok (.tableswitch 2214 0 42 #[187, 291, 347, 360, 373, 386, 454, 522, 577, 590, 645, 700, 714, 727, 806, 862, 875, 931, 945, 1000, 1056, 1123, 1190, 1257, 1312, 1379, 1434, 1490, 1567, 1581, 1595, 1650, 1706, 1761, 1817, 1917, 2005, 2019, 2032, 2088, 2101, 2157, 2201], 187) := by decide +kernel
theorem dL_law_232 : decode cL_law 232 = .ok (.aload_n 1, 1) := by decide +kernel
theorem dL_law_233 : decode cL_law 233 = .ok (.aload_n 0, 1) := by decide +kernel
theorem dL_law_234 : decode cL_law 234 = .ok (.iload 5, 2) := by decide +kernel
theorem dL_law_236 : decode cL_law 236 = .ok (.iconst 1, 1) := by decide +kernel
theorem dL_law_237 : decode cL_law 237 = .ok (.iadd, 1) := by decide +kernel
theorem dL_law_238 : decode cL_law 238 = .ok (.iaload, 1) := by decide +kernel
theorem dL_law_239 : decode cL_law 239 = .ok (.aload_n 0, 1) := by decide +kernel
theorem dL_law_240 : decode cL_law 240 = .ok (.iload 5, 2) := by decide +kernel
theorem dL_law_242 : decode cL_law 242 = .ok (.iconst 2, 1) := by decide +kernel
theorem dL_law_243 : decode cL_law 243 = .ok (.iadd, 1) := by decide +kernel
theorem dL_law_244 : decode cL_law 244 = .ok (.iaload, 1) := by decide +kernel
theorem dL_law_245 : decode cL_law 245 = .ok (.aload_n 0, 1) := by decide +kernel
theorem dL_law_246 : decode cL_law 246 = .ok (.iload 5, 2) := by decide +kernel
theorem dL_law_248 : decode cL_law 248 = .ok (.iconst 3, 1) := by decide +kernel
theorem dL_law_249 : decode cL_law 249 = .ok (.iadd, 1) := by decide +kernel
theorem dL_law_250 : decode cL_law 250 = .ok (.iaload, 1) := by decide +kernel
theorem dL_law_251 : decode cL_law 251 = .ok (.aload_n 0, 1) := by decide +kernel
theorem dL_law_252 : decode cL_law 252 = .ok (.iload 5, 2) := by decide +kernel
theorem dL_law_254 : decode cL_law 254 = .ok (.iconst 4, 1) := by decide +kernel
theorem dL_law_255 : decode cL_law 255 = .ok (.iadd, 1) := by decide +kernel
theorem dL_law_256 : decode cL_law 256 = .ok (.iaload, 1) := by decide +kernel
theorem dL_law_257 : decode cL_law 257 = .ok (.aload_n 0, 1) := by decide +kernel
theorem dL_law_258 : decode cL_law 258 = .ok (.iload 5, 2) := by decide +kernel
theorem dL_law_260 : decode cL_law 260 = .ok (.iconst 5, 1) := by decide +kernel
theorem dL_law_261 : decode cL_law 261 = .ok (.iadd, 1) := by decide +kernel
theorem dL_law_262 : decode cL_law 262 = .ok (.iaload, 1) := by decide +kernel
theorem dL_law_263 : decode cL_law 263 = .ok (.aload_n 3, 1) := by decide +kernel
theorem dL_law_264 : decode cL_law 264 = .ok (.invokestatic 120, 3) := by decide +kernel
theorem dL_law_267 : decode cL_law 267 = .ok (.istore 6, 2) := by decide +kernel
theorem dL_law_269 : decode cL_law 269 = .ok (.aload_n 2, 1) := by decide +kernel
theorem dL_law_270 : decode cL_law 270 = .ok (.aload_n 0, 1) := by decide +kernel
theorem dL_law_271 : decode cL_law 271 = .ok (.iload 5, 2) := by decide +kernel
theorem dL_law_273 : decode cL_law 273 = .ok (.iconst 1, 1) := by decide +kernel
theorem dL_law_274 : decode cL_law 274 = .ok (.iadd, 1) := by decide +kernel
theorem dL_law_275 : decode cL_law 275 = .ok (.iaload, 1) := by decide +kernel
theorem dL_law_276 : decode cL_law 276 = .ok (.aload_n 0, 1) := by decide +kernel
theorem dL_law_277 : decode cL_law 277 = .ok (.iload 5, 2) := by decide +kernel
theorem dL_law_279 : decode cL_law 279 = .ok (.iconst 2, 1) := by decide +kernel
theorem dL_law_280 : decode cL_law 280 = .ok (.iadd, 1) := by decide +kernel
theorem dL_law_281 : decode cL_law 281 = .ok (.iaload, 1) := by decide +kernel
theorem dL_law_282 : decode cL_law 282 = .ok (.aload_n 0, 1) := by decide +kernel
theorem dL_law_283 : decode cL_law 283 = .ok (.iload 5, 2) := by decide +kernel
theorem dL_law_285 : decode cL_law 285 = .ok (.iconst 3, 1) := by decide +kernel
theorem dL_law_286 : decode cL_law 286 = .ok (.iadd, 1) := by decide +kernel
theorem dL_law_287 : decode cL_law 287 = .ok (.iaload, 1) := by decide +kernel
theorem dL_law_288 : decode cL_law 288 = .ok (.aload_n 0, 1) := by decide +kernel
theorem dL_law_289 : decode cL_law 289 = .ok (.iload 5, 2) := by decide +kernel
theorem dL_law_291 : decode cL_law 291 = .ok (.iconst 4, 1) := by decide +kernel
theorem dL_law_292 : decode cL_law 292 = .ok (.iadd, 1) := by decide +kernel
theorem dL_law_293 : decode cL_law 293 = .ok (.iaload, 1) := by decide +kernel
theorem dL_law_294 : decode cL_law 294 = .ok (.aload_n 0, 1) := by decide +kernel
theorem dL_law_295 : decode cL_law 295 = .ok (.iload 5, 2) := by decide +kernel
theorem dL_law_297 : decode cL_law 297 = .ok (.iconst 5, 1) := by decide +kernel
theorem dL_law_298 : decode cL_law 298 = .ok (.iadd, 1) := by decide +kernel
theorem dL_law_299 : decode cL_law 299 = .ok (.iaload, 1) := by decide +kernel
theorem dL_law_300 : decode cL_law 300 = .ok (.invokevirtual 125, 3) := by decide +kernel
theorem dL_law_303 : decode cL_law 303 = .ok (.istore 7, 2) := by decide +kernel
theorem dL_law_305 : decode cL_law 305 = .ok (.aload_n 2, 1) := by decide +kernel
theorem dL_law_306 : decode cL_law 306 = .ok (.invokevirtual 126, 3) := by decide +kernel
theorem dL_law_309 : decode cL_law 309 = .ok (.iload 6, 2) := by decide +kernel
theorem dL_law_311 : decode cL_law 311 = .ok (.if_icmp .eq 5, 3) := by decide +kernel
theorem dL_law_314 : decode cL_law 314 = .ok (.iconst 0, 1) := by decide +kernel
theorem dL_law_315 : decode cL_law 315 = .ok (.ireturn, 1) := by decide +kernel
theorem dL_law_316 : decode cL_law 316 = .ok (.iload 6, 2) := by decide +kernel
theorem dL_law_318 : decode cL_law 318 = .ok (.ifCond .ne 15, 3) := by decide +kernel
theorem dL_law_321 : decode cL_law 321 = .ok (.aload_n 3, 1) := by decide +kernel
theorem dL_law_322 : decode cL_law 322 = .ok (.iconst 0, 1) := by decide +kernel
theorem dL_law_323 : decode cL_law 323 = .ok (.laload, 1) := by decide +kernel
theorem dL_law_324 : decode cL_law 324 = .ok (.iload 7, 2) := by decide +kernel
theorem dL_law_326 : decode cL_law 326 = .ok (.i2l, 1) := by decide +kernel
theorem dL_law_327 : decode cL_law 327 = .ok (.lcmp, 1) := by decide +kernel
theorem dL_law_328 : decode cL_law 328 = .ok (.ifCond .eq 5, 3) := by decide +kernel
theorem dL_law_331 : decode cL_law 331 = .ok (.iconst 0, 1) := by decide +kernel
theorem dL_law_332 : decode cL_law 332 = .ok (.ireturn, 1) := by decide +kernel
theorem dL_law_333 : decode cL_law 333 = .ok (.goto 1926, 3) := by decide +kernel
theorem dL_law_336 : decode cL_law 336 = .ok (.aload_n 1, 1) := by decide +kernel
theorem dL_law_337 : decode cL_law 337 = .ok (.aload_n 0, 1) := by decide +kernel
theorem dL_law_338 : decode cL_law 338 = .ok (.iload 5, 2) := by decide +kernel
theorem dL_law_340 : decode cL_law 340 = .ok (.iconst 1, 1) := by decide +kernel
theorem dL_law_341 : decode cL_law 341 = .ok (.iadd, 1) := by decide +kernel
theorem dL_law_342 : decode cL_law 342 = .ok (.iaload, 1) := by decide +kernel
theorem dL_law_343 : decode cL_law 343 = .ok (.aload_n 3, 1) := by decide +kernel
theorem dL_law_344 : decode cL_law 344 = .ok (.invokestatic 129, 3) := by decide +kernel
theorem dL_law_347 : decode cL_law 347 = .ok (.istore 6, 2) := by decide +kernel
theorem dL_law_349 : decode cL_law 349 = .ok (.aload_n 2, 1) := by decide +kernel
theorem dL_law_350 : decode cL_law 350 = .ok (.aload_n 0, 1) := by decide +kernel
theorem dL_law_351 : decode cL_law 351 = .ok (.iload 5, 2) := by decide +kernel
theorem dL_law_353 : decode cL_law 353 = .ok (.iconst 1, 1) := by decide +kernel
theorem dL_law_354 : decode cL_law 354 = .ok (.iadd, 1) := by decide +kernel
theorem dL_law_355 : decode cL_law 355 = .ok (.iaload, 1) := by decide +kernel
theorem dL_law_356 : decode cL_law 356 = .ok (.invokevirtual 132, 3) := by decide +kernel
theorem dL_law_359 : decode cL_law 359 = .ok (.istore 7, 2) := by decide +kernel
theorem dL_law_361 : decode cL_law 361 = .ok (.aload_n 2, 1) := by decide +kernel
theorem dL_law_362 : decode cL_law 362 = .ok (.invokevirtual 126, 3) := by decide +kernel
theorem dL_law_365 : decode cL_law 365 = .ok (.iload 6, 2) := by decide +kernel
theorem dL_law_367 : decode cL_law 367 = .ok (.if_icmp .eq 5, 3) := by decide +kernel
theorem dL_law_370 : decode cL_law 370 = .ok (.iconst 0, 1) := by decide +kernel
theorem dL_law_371 : decode cL_law 371 = .ok (.ireturn, 1) := by decide +kernel
theorem dL_law_372 : decode cL_law 372 = .ok (.iload 6, 2) := by decide +kernel
theorem dL_law_374 : decode cL_law 374 = .ok (.ifCond .ne 15, 3) := by decide +kernel
theorem dL_law_377 : decode cL_law 377 = .ok (.aload_n 3, 1) := by decide +kernel
theorem dL_law_378 : decode cL_law 378 = .ok (.iconst 0, 1) := by decide +kernel
theorem dL_law_379 : decode cL_law 379 = .ok (.laload, 1) := by decide +kernel
theorem dL_law_380 : decode cL_law 380 = .ok (.iload 7, 2) := by decide +kernel
theorem dL_law_382 : decode cL_law 382 = .ok (.i2l, 1) := by decide +kernel
theorem dL_law_383 : decode cL_law 383 = .ok (.lcmp, 1) := by decide +kernel
theorem dL_law_384 : decode cL_law 384 = .ok (.ifCond .eq 5, 3) := by decide +kernel
theorem dL_law_387 : decode cL_law 387 = .ok (.iconst 0, 1) := by decide +kernel
theorem dL_law_388 : decode cL_law 388 = .ok (.ireturn, 1) := by decide +kernel
theorem dL_law_389 : decode cL_law 389 = .ok (.goto 1870, 3) := by decide +kernel
theorem dL_law_392 : decode cL_law 392 = .ok (.aload_n 1, 1) := by decide +kernel
theorem dL_law_393 : decode cL_law 393 = .ok (.invokevirtual 133, 3) := by decide +kernel
theorem dL_law_396 : decode cL_law 396 = .ok (.aload_n 2, 1) := by decide +kernel
theorem dL_law_397 : decode cL_law 397 = .ok (.invokevirtual 136, 3) := by decide +kernel
theorem dL_law_400 : decode cL_law 400 = .ok (.if_icmp .eq 1859, 3) := by decide +kernel
theorem dL_law_403 : decode cL_law 403 = .ok (.iconst 0, 1) := by decide +kernel
theorem dL_law_404 : decode cL_law 404 = .ok (.ireturn, 1) := by decide +kernel
theorem dL_law_405 : decode cL_law 405 = .ok (.aload_n 1, 1) := by decide +kernel
theorem dL_law_406 : decode cL_law 406 = .ok (.invokevirtual 137, 3) := by decide +kernel
theorem dL_law_409 : decode cL_law 409 = .ok (.aload_n 2, 1) := by decide +kernel
theorem dL_law_410 : decode cL_law 410 = .ok (.invokevirtual 140, 3) := by decide +kernel
theorem dL_law_413 : decode cL_law 413 = .ok (.if_icmp .eq 1846, 3) := by decide +kernel
theorem dL_law_416 : decode cL_law 416 = .ok (.iconst 0, 1) := by decide +kernel
theorem dL_law_417 : decode cL_law 417 = .ok (.ireturn, 1) := by decide +kernel
theorem dL_law_418 : decode cL_law 418 = .ok (.aload_n 1, 1) := by decide +kernel
theorem dL_law_419 : decode cL_law 419 = .ok (.invokevirtual 141, 3) := by decide +kernel
theorem dL_law_422 : decode cL_law 422 = .ok (.aload_n 2, 1) := by decide +kernel
theorem dL_law_423 : decode cL_law 423 = .ok (.invokevirtual 144, 3) := by decide +kernel
theorem dL_law_426 : decode cL_law 426 = .ok (.if_icmp .eq 1833, 3) := by decide +kernel
theorem dL_law_429 : decode cL_law 429 = .ok (.iconst 0, 1) := by decide +kernel
theorem dL_law_430 : decode cL_law 430 = .ok (.ireturn, 1) := by decide +kernel
theorem dL_law_431 : decode cL_law 431 = .ok (.aload_n 1, 1) := by decide +kernel
theorem dL_law_432 : decode cL_law 432 = .ok (.aload_n 0, 1) := by decide +kernel
theorem dL_law_433 : decode cL_law 433 = .ok (.iload 5, 2) := by decide +kernel
theorem dL_law_435 : decode cL_law 435 = .ok (.iconst 1, 1) := by decide +kernel
theorem dL_law_436 : decode cL_law 436 = .ok (.iadd, 1) := by decide +kernel
theorem dL_law_437 : decode cL_law 437 = .ok (.iaload, 1) := by decide +kernel
theorem dL_law_438 : decode cL_law 438 = .ok (.aload_n 0, 1) := by decide +kernel
theorem dL_law_439 : decode cL_law 439 = .ok (.iload 5, 2) := by decide +kernel
theorem dL_law_441 : decode cL_law 441 = .ok (.iconst 2, 1) := by decide +kernel
theorem dL_law_442 : decode cL_law 442 = .ok (.iadd, 1) := by decide +kernel
theorem dL_law_443 : decode cL_law 443 = .ok (.iaload, 1) := by decide +kernel
theorem dL_law_444 : decode cL_law 444 = .ok (.aload_n 3, 1) := by decide +kernel
theorem dL_law_445 : decode cL_law 445 = .ok (.invokestatic 145, 3) := by decide +kernel
theorem dL_law_448 : decode cL_law 448 = .ok (.istore 6, 2) := by decide +kernel
theorem dL_law_450 : decode cL_law 450 = .ok (.aload_n 2, 1) := by decide +kernel
theorem dL_law_451 : decode cL_law 451 = .ok (.aload_n 0, 1) := by decide +kernel
theorem dL_law_452 : decode cL_law 452 = .ok (.iload 5, 2) := by decide +kernel
theorem dL_law_454 : decode cL_law 454 = .ok (.iconst 1, 1) := by decide +kernel
theorem dL_law_455 : decode cL_law 455 = .ok (.iadd, 1) := by decide +kernel
theorem dL_law_456 : decode cL_law 456 = .ok (.iaload, 1) := by decide +kernel
theorem dL_law_457 : decode cL_law 457 = .ok (.aload_n 0, 1) := by decide +kernel
theorem dL_law_458 : decode cL_law 458 = .ok (.iload 5, 2) := by decide +kernel
theorem dL_law_460 : decode cL_law 460 = .ok (.iconst 2, 1) := by decide +kernel
theorem dL_law_461 : decode cL_law 461 = .ok (.iadd, 1) := by decide +kernel
theorem dL_law_462 : decode cL_law 462 = .ok (.iaload, 1) := by decide +kernel
theorem dL_law_463 : decode cL_law 463 = .ok (.invokevirtual 148, 3) := by decide +kernel
theorem dL_law_466 : decode cL_law 466 = .ok (.istore 7, 2) := by decide +kernel
theorem dL_law_468 : decode cL_law 468 = .ok (.aload_n 2, 1) := by decide +kernel
theorem dL_law_469 : decode cL_law 469 = .ok (.invokevirtual 126, 3) := by decide +kernel
theorem dL_law_472 : decode cL_law 472 = .ok (.iload 6, 2) := by decide +kernel
theorem dL_law_474 : decode cL_law 474 = .ok (.if_icmp .eq 5, 3) := by decide +kernel
theorem dL_law_477 : decode cL_law 477 = .ok (.iconst 0, 1) := by decide +kernel
theorem dL_law_478 : decode cL_law 478 = .ok (.ireturn, 1) := by decide +kernel
theorem dL_law_479 : decode cL_law 479 = .ok (.iload 6, 2) := by decide +kernel
theorem dL_law_481 : decode cL_law 481 = .ok (.ifCond .ne 15, 3) := by decide +kernel
theorem dL_law_484 : decode cL_law 484 = .ok (.aload_n 3, 1) := by decide +kernel
theorem dL_law_485 : decode cL_law 485 = .ok (.iconst 0, 1) := by decide +kernel
theorem dL_law_486 : decode cL_law 486 = .ok (.laload, 1) := by decide +kernel
theorem dL_law_487 : decode cL_law 487 = .ok (.iload 7, 2) := by decide +kernel
theorem dL_law_489 : decode cL_law 489 = .ok (.i2l, 1) := by decide +kernel
theorem dL_law_490 : decode cL_law 490 = .ok (.lcmp, 1) := by decide +kernel
theorem dL_law_491 : decode cL_law 491 = .ok (.ifCond .eq 5, 3) := by decide +kernel
theorem dL_law_494 : decode cL_law 494 = .ok (.iconst 0, 1) := by decide +kernel
theorem dL_law_495 : decode cL_law 495 = .ok (.ireturn, 1) := by decide +kernel
theorem dL_law_496 : decode cL_law 496 = .ok (.goto 1763, 3) := by decide +kernel
theorem dL_law_499 : decode cL_law 499 = .ok (.aload_n 1, 1) := by decide +kernel
theorem dL_law_500 : decode cL_law 500 = .ok (.aload_n 0, 1) := by decide +kernel
theorem dL_law_501 : decode cL_law 501 = .ok (.iload 5, 2) := by decide +kernel
theorem dL_law_503 : decode cL_law 503 = .ok (.iconst 1, 1) := by decide +kernel
theorem dL_law_504 : decode cL_law 504 = .ok (.iadd, 1) := by decide +kernel
theorem dL_law_505 : decode cL_law 505 = .ok (.iaload, 1) := by decide +kernel
theorem dL_law_506 : decode cL_law 506 = .ok (.aload_n 0, 1) := by decide +kernel
theorem dL_law_507 : decode cL_law 507 = .ok (.iload 5, 2) := by decide +kernel
theorem dL_law_509 : decode cL_law 509 = .ok (.iconst 2, 1) := by decide +kernel
theorem dL_law_510 : decode cL_law 510 = .ok (.iadd, 1) := by decide +kernel
theorem dL_law_511 : decode cL_law 511 = .ok (.iaload, 1) := by decide +kernel
theorem dL_law_512 : decode cL_law 512 = .ok (.aload_n 3, 1) := by decide +kernel
theorem dL_law_513 : decode cL_law 513 = .ok (.invokestatic 149, 3) := by decide +kernel
theorem dL_law_516 : decode cL_law 516 = .ok (.istore 6, 2) := by decide +kernel
theorem dL_law_518 : decode cL_law 518 = .ok (.aload_n 2, 1) := by decide +kernel
theorem dL_law_519 : decode cL_law 519 = .ok (.aload_n 0, 1) := by decide +kernel
theorem dL_law_520 : decode cL_law 520 = .ok (.iload 5, 2) := by decide +kernel
theorem dL_law_522 : decode cL_law 522 = .ok (.iconst 1, 1) := by decide +kernel
theorem dL_law_523 : decode cL_law 523 = .ok (.iadd, 1) := by decide +kernel
theorem dL_law_524 : decode cL_law 524 = .ok (.iaload, 1) := by decide +kernel
theorem dL_law_525 : decode cL_law 525 = .ok (.aload_n 0, 1) := by decide +kernel
theorem dL_law_526 : decode cL_law 526 = .ok (.iload 5, 2) := by decide +kernel
theorem dL_law_528 : decode cL_law 528 = .ok (.iconst 2, 1) := by decide +kernel
theorem dL_law_529 : decode cL_law 529 = .ok (.iadd, 1) := by decide +kernel
theorem dL_law_530 : decode cL_law 530 = .ok (.iaload, 1) := by decide +kernel
theorem dL_law_531 : decode cL_law 531 = .ok (.invokevirtual 151, 3) := by decide +kernel
theorem dL_law_534 : decode cL_law 534 = .ok (.istore 7, 2) := by decide +kernel
theorem dL_law_536 : decode cL_law 536 = .ok (.aload_n 2, 1) := by decide +kernel
theorem dL_law_537 : decode cL_law 537 = .ok (.invokevirtual 126, 3) := by decide +kernel
theorem dL_law_540 : decode cL_law 540 = .ok (.iload 6, 2) := by decide +kernel
theorem dL_law_542 : decode cL_law 542 = .ok (.if_icmp .eq 5, 3) := by decide +kernel
theorem dL_law_545 : decode cL_law 545 = .ok (.iconst 0, 1) := by decide +kernel
theorem dL_law_546 : decode cL_law 546 = .ok (.ireturn, 1) := by decide +kernel
theorem dL_law_547 : decode cL_law 547 = .ok (.iload 6, 2) := by decide +kernel
theorem dL_law_549 : decode cL_law 549 = .ok (.ifCond .ne 15, 3) := by decide +kernel
theorem dL_law_552 : decode cL_law 552 = .ok (.aload_n 3, 1) := by decide +kernel
theorem dL_law_553 : decode cL_law 553 = .ok (.iconst 0, 1) := by decide +kernel
theorem dL_law_554 : decode cL_law 554 = .ok (.laload, 1) := by decide +kernel
theorem dL_law_555 : decode cL_law 555 = .ok (.iload 7, 2) := by decide +kernel
theorem dL_law_557 : decode cL_law 557 = .ok (.i2l, 1) := by decide +kernel
theorem dL_law_558 : decode cL_law 558 = .ok (.lcmp, 1) := by decide +kernel
theorem dL_law_559 : decode cL_law 559 = .ok (.ifCond .eq 5, 3) := by decide +kernel
theorem dL_law_562 : decode cL_law 562 = .ok (.iconst 0, 1) := by decide +kernel
theorem dL_law_563 : decode cL_law 563 = .ok (.ireturn, 1) := by decide +kernel
theorem dL_law_564 : decode cL_law 564 = .ok (.goto 1695, 3) := by decide +kernel
theorem dL_law_567 : decode cL_law 567 = .ok (.aload_n 1, 1) := by decide +kernel
theorem dL_law_568 : decode cL_law 568 = .ok (.aload_n 0, 1) := by decide +kernel
theorem dL_law_569 : decode cL_law 569 = .ok (.iload 5, 2) := by decide +kernel
theorem dL_law_571 : decode cL_law 571 = .ok (.iconst 1, 1) := by decide +kernel
theorem dL_law_572 : decode cL_law 572 = .ok (.iadd, 1) := by decide +kernel
theorem dL_law_573 : decode cL_law 573 = .ok (.iaload, 1) := by decide +kernel
theorem dL_law_574 : decode cL_law 574 = .ok (.aload_n 3, 1) := by decide +kernel
theorem dL_law_575 : decode cL_law 575 = .ok (.invokestatic 152, 3) := by decide +kernel
theorem dL_law_578 : decode cL_law 578 = .ok (.istore 6, 2) := by decide +kernel
theorem dL_law_580 : decode cL_law 580 = .ok (.aload_n 2, 1) := by decide +kernel
theorem dL_law_581 : decode cL_law 581 = .ok (.aload_n 0, 1) := by decide +kernel
theorem dL_law_582 : decode cL_law 582 = .ok (.iload 5, 2) := by decide +kernel
theorem dL_law_584 : decode cL_law 584 = .ok (.iconst 1, 1) := by decide +kernel
theorem dL_law_585 : decode cL_law 585 = .ok (.iadd, 1) := by decide +kernel
theorem dL_law_586 : decode cL_law 586 = .ok (.iaload, 1) := by decide +kernel
theorem dL_law_587 : decode cL_law 587 = .ok (.invokevirtual 154, 3) := by decide +kernel
theorem dL_law_590 : decode cL_law 590 = .ok (.lstore 7, 2) := by decide +kernel
theorem dL_law_592 : decode cL_law 592 = .ok (.aload_n 2, 1) := by decide +kernel
theorem dL_law_593 : decode cL_law 593 = .ok (.invokevirtual 126, 3) := by decide +kernel
theorem dL_law_596 : decode cL_law 596 = .ok (.iload 6, 2) := by decide +kernel
theorem dL_law_598 : decode cL_law 598 = .ok (.if_icmp .eq 5, 3) := by decide +kernel
theorem dL_law_601 : decode cL_law 601 = .ok (.iconst 0, 1) := by decide +kernel
theorem dL_law_602 : decode cL_law 602 = .ok (.ireturn, 1) := by decide +kernel
theorem dL_law_603 : decode cL_law 603 = .ok (.iload 6, 2) := by decide +kernel
theorem dL_law_605 : decode cL_law 605 = .ok (.ifCond .ne 14, 3) := by decide +kernel
theorem dL_law_608 : decode cL_law 608 = .ok (.aload_n 3, 1) := by decide +kernel
theorem dL_law_609 : decode cL_law 609 = .ok (.iconst 0, 1) := by decide +kernel
theorem dL_law_610 : decode cL_law 610 = .ok (.laload, 1) := by decide +kernel
theorem dL_law_611 : decode cL_law 611 = .ok (.lload 7, 2) := by decide +kernel
theorem dL_law_613 : decode cL_law 613 = .ok (.lcmp, 1) := by decide +kernel
theorem dL_law_614 : decode cL_law 614 = .ok (.ifCond .eq 5, 3) := by decide +kernel
theorem dL_law_617 : decode cL_law 617 = .ok (.iconst 0, 1) := by decide +kernel
theorem dL_law_618 : decode cL_law 618 = .ok (.ireturn, 1) := by decide +kernel
theorem dL_law_619 : decode cL_law 619 = .ok (.goto 1640, 3) := by decide +kernel
theorem dL_law_622 : decode cL_law 622 = .ok (.aload_n 1, 1) := by decide +kernel
theorem dL_law_623 : decode cL_law 623 = .ok (.invokevirtual 155, 3) := by decide +kernel
theorem dL_law_626 : decode cL_law 626 = .ok (.aload_n 2, 1) := by decide +kernel
theorem dL_law_627 : decode cL_law 627 = .ok (.invokevirtual 158, 3) := by decide +kernel
theorem dL_law_630 : decode cL_law 630 = .ok (.if_icmp .eq 1629, 3) := by decide +kernel
theorem dL_law_633 : decode cL_law 633 = .ok (.iconst 0, 1) := by decide +kernel
theorem dL_law_634 : decode cL_law 634 = .ok (.ireturn, 1) := by decide +kernel
theorem dL_law_635 : decode cL_law 635 = .ok (.aload_n 1, 1) := by decide +kernel
theorem dL_law_636 : decode cL_law 636 = .ok (.aload_n 0, 1) := by decide +kernel
theorem dL_law_637 : decode cL_law 637 = .ok (.iload 5, 2) := by decide +kernel
theorem dL_law_639 : decode cL_law 639 = .ok (.iconst 1, 1) := by decide +kernel
theorem dL_law_640 : decode cL_law 640 = .ok (.iadd, 1) := by decide +kernel
theorem dL_law_641 : decode cL_law 641 = .ok (.iaload, 1) := by decide +kernel
theorem dL_law_642 : decode cL_law 642 = .ok (.aload_n 3, 1) := by decide +kernel
theorem dL_law_643 : decode cL_law 643 = .ok (.invokestatic 159, 3) := by decide +kernel
theorem dL_law_646 : decode cL_law 646 = .ok (.istore 6, 2) := by decide +kernel
theorem dL_law_648 : decode cL_law 648 = .ok (.aload_n 2, 1) := by decide +kernel
theorem dL_law_649 : decode cL_law 649 = .ok (.aload_n 0, 1) := by decide +kernel
theorem dL_law_650 : decode cL_law 650 = .ok (.iload 5, 2) := by decide +kernel
theorem dL_law_652 : decode cL_law 652 = .ok (.iconst 1, 1) := by decide +kernel
theorem dL_law_653 : decode cL_law 653 = .ok (.iadd, 1) := by decide +kernel
theorem dL_law_654 : decode cL_law 654 = .ok (.iaload, 1) := by decide +kernel
theorem dL_law_655 : decode cL_law 655 = .ok (.invokevirtual 161, 3) := by decide +kernel
theorem dL_law_658 : decode cL_law 658 = .ok (.lstore 7, 2) := by decide +kernel
theorem dL_law_660 : decode cL_law 660 = .ok (.aload_n 2, 1) := by decide +kernel
theorem dL_law_661 : decode cL_law 661 = .ok (.invokevirtual 126, 3) := by decide +kernel
theorem dL_law_664 : decode cL_law 664 = .ok (.iload 6, 2) := by decide +kernel
theorem dL_law_666 : decode cL_law 666 = .ok (.if_icmp .eq 5, 3) := by decide +kernel
theorem dL_law_669 : decode cL_law 669 = .ok (.iconst 0, 1) := by decide +kernel
theorem dL_law_670 : decode cL_law 670 = .ok (.ireturn, 1) := by decide +kernel
theorem dL_law_671 : decode cL_law 671 = .ok (.iload 6, 2) := by decide +kernel
theorem dL_law_673 : decode cL_law 673 = .ok (.ifCond .ne 14, 3) := by decide +kernel
theorem dL_law_676 : decode cL_law 676 = .ok (.aload_n 3, 1) := by decide +kernel
theorem dL_law_677 : decode cL_law 677 = .ok (.iconst 0, 1) := by decide +kernel
theorem dL_law_678 : decode cL_law 678 = .ok (.laload, 1) := by decide +kernel
theorem dL_law_679 : decode cL_law 679 = .ok (.lload 7, 2) := by decide +kernel
theorem dL_law_681 : decode cL_law 681 = .ok (.lcmp, 1) := by decide +kernel
theorem dL_law_682 : decode cL_law 682 = .ok (.ifCond .eq 5, 3) := by decide +kernel
theorem dL_law_685 : decode cL_law 685 = .ok (.iconst 0, 1) := by decide +kernel
theorem dL_law_686 : decode cL_law 686 = .ok (.ireturn, 1) := by decide +kernel
theorem dL_law_687 : decode cL_law 687 = .ok (.goto 1572, 3) := by decide +kernel
theorem dL_law_690 : decode cL_law 690 = .ok (.aload_n 1, 1) := by decide +kernel
theorem dL_law_691 : decode cL_law 691 = .ok (.aload_n 0, 1) := by decide +kernel
theorem dL_law_692 : decode cL_law 692 = .ok (.iload 5, 2) := by decide +kernel
theorem dL_law_694 : decode cL_law 694 = .ok (.iconst 1, 1) := by decide +kernel
theorem dL_law_695 : decode cL_law 695 = .ok (.iadd, 1) := by decide +kernel
theorem dL_law_696 : decode cL_law 696 = .ok (.iaload, 1) := by decide +kernel
theorem dL_law_697 : decode cL_law 697 = .ok (.aload_n 3, 1) := by decide +kernel
theorem dL_law_698 : decode cL_law 698 = .ok (.invokestatic 162, 3) := by decide +kernel
theorem dL_law_701 : decode cL_law 701 = .ok (.istore 6, 2) := by decide +kernel
theorem dL_law_703 : decode cL_law 703 = .ok (.aload_n 2, 1) := by decide +kernel
theorem dL_law_704 : decode cL_law 704 = .ok (.aload_n 0, 1) := by decide +kernel
theorem dL_law_705 : decode cL_law 705 = .ok (.iload 5, 2) := by decide +kernel
theorem dL_law_707 : decode cL_law 707 = .ok (.iconst 1, 1) := by decide +kernel
theorem dL_law_708 : decode cL_law 708 = .ok (.iadd, 1) := by decide +kernel
theorem dL_law_709 : decode cL_law 709 = .ok (.iaload, 1) := by decide +kernel
theorem dL_law_710 : decode cL_law 710 = .ok (.invokevirtual 164, 3) := by decide +kernel
theorem dL_law_713 : decode cL_law 713 = .ok (.lstore 7, 2) := by decide +kernel
theorem dL_law_715 : decode cL_law 715 = .ok (.aload_n 2, 1) := by decide +kernel
theorem dL_law_716 : decode cL_law 716 = .ok (.invokevirtual 126, 3) := by decide +kernel
theorem dL_law_719 : decode cL_law 719 = .ok (.iload 6, 2) := by decide +kernel
theorem dL_law_721 : decode cL_law 721 = .ok (.if_icmp .eq 5, 3) := by decide +kernel
theorem dL_law_724 : decode cL_law 724 = .ok (.iconst 0, 1) := by decide +kernel
theorem dL_law_725 : decode cL_law 725 = .ok (.ireturn, 1) := by decide +kernel
theorem dL_law_726 : decode cL_law 726 = .ok (.iload 6, 2) := by decide +kernel
theorem dL_law_728 : decode cL_law 728 = .ok (.ifCond .ne 14, 3) := by decide +kernel
theorem dL_law_731 : decode cL_law 731 = .ok (.aload_n 3, 1) := by decide +kernel
theorem dL_law_732 : decode cL_law 732 = .ok (.iconst 0, 1) := by decide +kernel
theorem dL_law_733 : decode cL_law 733 = .ok (.laload, 1) := by decide +kernel
theorem dL_law_734 : decode cL_law 734 = .ok (.lload 7, 2) := by decide +kernel
theorem dL_law_736 : decode cL_law 736 = .ok (.lcmp, 1) := by decide +kernel
theorem dL_law_737 : decode cL_law 737 = .ok (.ifCond .eq 5, 3) := by decide +kernel
theorem dL_law_740 : decode cL_law 740 = .ok (.iconst 0, 1) := by decide +kernel
theorem dL_law_741 : decode cL_law 741 = .ok (.ireturn, 1) := by decide +kernel
theorem dL_law_742 : decode cL_law 742 = .ok (.goto 1517, 3) := by decide +kernel
theorem dL_law_745 : decode cL_law 745 = .ok (.aload_n 1, 1) := by decide +kernel
theorem dL_law_746 : decode cL_law 746 = .ok (.invokevirtual 165, 3) := by decide +kernel
theorem dL_law_749 : decode cL_law 749 = .ok (.aload_n 2, 1) := by decide +kernel
theorem dL_law_750 : decode cL_law 750 = .ok (.invokevirtual 169, 3) := by decide +kernel
theorem dL_law_753 : decode cL_law 753 = .ok (.lcmp, 1) := by decide +kernel
theorem dL_law_754 : decode cL_law 754 = .ok (.ifCond .eq 1505, 3) := by decide +kernel
theorem dL_law_757 : decode cL_law 757 = .ok (.iconst 0, 1) := by decide +kernel
theorem dL_law_758 : decode cL_law 758 = .ok (.ireturn, 1) := by decide +kernel
theorem dL_law_759 : decode cL_law 759 = .ok (.aload_n 1, 1) := by decide +kernel
theorem dL_law_760 : decode cL_law 760 = .ok (.invokevirtual 170, 3) := by decide +kernel
theorem dL_law_763 : decode cL_law 763 = .ok (.aload_n 2, 1) := by decide +kernel
theorem dL_law_764 : decode cL_law 764 = .ok (.invokevirtual 173, 3) := by decide +kernel
theorem dL_law_767 : decode cL_law 767 = .ok (.if_icmp .eq 1492, 3) := by decide +kernel
theorem dL_law_770 : decode cL_law 770 = .ok (.iconst 0, 1) := by decide +kernel
theorem dL_law_771 : decode cL_law 771 = .ok (.ireturn, 1) := by decide +kernel
theorem dL_law_772 : decode cL_law 772 = .ok (.aload_n 1, 1) := by decide +kernel
theorem dL_law_773 : decode cL_law 773 = .ok (.aload_n 0, 1) := by decide +kernel
theorem dL_law_774 : decode cL_law 774 = .ok (.iload 5, 2) := by decide +kernel
theorem dL_law_776 : decode cL_law 776 = .ok (.iconst 1, 1) := by decide +kernel
theorem dL_law_777 : decode cL_law 777 = .ok (.iadd, 1) := by decide +kernel
theorem dL_law_778 : decode cL_law 778 = .ok (.iaload, 1) := by decide +kernel
theorem dL_law_779 : decode cL_law 779 = .ok (.aload_n 0, 1) := by decide +kernel
theorem dL_law_780 : decode cL_law 780 = .ok (.iload 5, 2) := by decide +kernel
theorem dL_law_782 : decode cL_law 782 = .ok (.iconst 2, 1) := by decide +kernel
theorem dL_law_783 : decode cL_law 783 = .ok (.iadd, 1) := by decide +kernel
theorem dL_law_784 : decode cL_law 784 = .ok (.iaload, 1) := by decide +kernel
theorem dL_law_785 : decode cL_law 785 = .ok (.aload_n 0, 1) := by decide +kernel
theorem dL_law_786 : decode cL_law 786 = .ok (.iload 5, 2) := by decide +kernel
theorem dL_law_788 : decode cL_law 788 = .ok (.iconst 3, 1) := by decide +kernel
theorem dL_law_789 : decode cL_law 789 = .ok (.iadd, 1) := by decide +kernel
theorem dL_law_790 : decode cL_law 790 = .ok (.iaload, 1) := by decide +kernel
theorem dL_law_791 : decode cL_law 791 = .ok (.aload_n 3, 1) := by decide +kernel
theorem dL_law_792 : decode cL_law 792 = .ok (.invokestatic 174, 3) := by decide +kernel
theorem dL_law_795 : decode cL_law 795 = .ok (.istore 6, 2) := by decide +kernel
theorem dL_law_797 : decode cL_law 797 = .ok (.aload_n 2, 1) := by decide +kernel
theorem dL_law_798 : decode cL_law 798 = .ok (.aload_n 0, 1) := by decide +kernel
theorem dL_law_799 : decode cL_law 799 = .ok (.iload 5, 2) := by decide +kernel
theorem dL_law_801 : decode cL_law 801 = .ok (.iconst 1, 1) := by decide +kernel
theorem dL_law_802 : decode cL_law 802 = .ok (.iadd, 1) := by decide +kernel
theorem dL_law_803 : decode cL_law 803 = .ok (.iaload, 1) := by decide +kernel
theorem dL_law_804 : decode cL_law 804 = .ok (.aload_n 0, 1) := by decide +kernel
theorem dL_law_805 : decode cL_law 805 = .ok (.iload 5, 2) := by decide +kernel
theorem dL_law_807 : decode cL_law 807 = .ok (.iconst 2, 1) := by decide +kernel
theorem dL_law_808 : decode cL_law 808 = .ok (.iadd, 1) := by decide +kernel
theorem dL_law_809 : decode cL_law 809 = .ok (.iaload, 1) := by decide +kernel
theorem dL_law_810 : decode cL_law 810 = .ok (.aload_n 0, 1) := by decide +kernel
theorem dL_law_811 : decode cL_law 811 = .ok (.iload 5, 2) := by decide +kernel
theorem dL_law_813 : decode cL_law 813 = .ok (.iconst 3, 1) := by decide +kernel
theorem dL_law_814 : decode cL_law 814 = .ok (.iadd, 1) := by decide +kernel
theorem dL_law_815 : decode cL_law 815 = .ok (.iaload, 1) := by decide +kernel
theorem dL_law_816 : decode cL_law 816 = .ok (.invokevirtual 177, 3) := by decide +kernel
theorem dL_law_819 : decode cL_law 819 = .ok (.lstore 7, 2) := by decide +kernel
theorem dL_law_821 : decode cL_law 821 = .ok (.aload_n 2, 1) := by decide +kernel
theorem dL_law_822 : decode cL_law 822 = .ok (.invokevirtual 126, 3) := by decide +kernel
theorem dL_law_825 : decode cL_law 825 = .ok (.iload 6, 2) := by decide +kernel
theorem dL_law_827 : decode cL_law 827 = .ok (.if_icmp .eq 5, 3) := by decide +kernel
theorem dL_law_830 : decode cL_law 830 = .ok (.iconst 0, 1) := by decide +kernel
theorem dL_law_831 : decode cL_law 831 = .ok (.ireturn, 1) := by decide +kernel
theorem dL_law_832 : decode cL_law 832 = .ok (.iload 6, 2) := by decide +kernel
theorem dL_law_834 : decode cL_law 834 = .ok (.ifCond .ne 14, 3) := by decide +kernel
theorem dL_law_837 : decode cL_law 837 = .ok (.aload_n 3, 1) := by decide +kernel
theorem dL_law_838 : decode cL_law 838 = .ok (.iconst 0, 1) := by decide +kernel
theorem dL_law_839 : decode cL_law 839 = .ok (.laload, 1) := by decide +kernel
theorem dL_law_840 : decode cL_law 840 = .ok (.lload 7, 2) := by decide +kernel
theorem dL_law_842 : decode cL_law 842 = .ok (.lcmp, 1) := by decide +kernel
theorem dL_law_843 : decode cL_law 843 = .ok (.ifCond .eq 5, 3) := by decide +kernel
theorem dL_law_846 : decode cL_law 846 = .ok (.iconst 0, 1) := by decide +kernel
theorem dL_law_847 : decode cL_law 847 = .ok (.ireturn, 1) := by decide +kernel
theorem dL_law_848 : decode cL_law 848 = .ok (.goto 1411, 3) := by decide +kernel
theorem dL_law_851 : decode cL_law 851 = .ok (.aload_n 1, 1) := by decide +kernel
theorem dL_law_852 : decode cL_law 852 = .ok (.aload_n 0, 1) := by decide +kernel
theorem dL_law_853 : decode cL_law 853 = .ok (.iload 5, 2) := by decide +kernel
theorem dL_law_855 : decode cL_law 855 = .ok (.iconst 1, 1) := by decide +kernel
theorem dL_law_856 : decode cL_law 856 = .ok (.iadd, 1) := by decide +kernel
theorem dL_law_857 : decode cL_law 857 = .ok (.iaload, 1) := by decide +kernel
theorem dL_law_858 : decode cL_law 858 = .ok (.aload_n 3, 1) := by decide +kernel
theorem dL_law_859 : decode cL_law 859 = .ok (.invokestatic 178, 3) := by decide +kernel
theorem dL_law_862 : decode cL_law 862 = .ok (.istore 6, 2) := by decide +kernel
theorem dL_law_864 : decode cL_law 864 = .ok (.aload_n 2, 1) := by decide +kernel
theorem dL_law_865 : decode cL_law 865 = .ok (.aload_n 0, 1) := by decide +kernel
theorem dL_law_866 : decode cL_law 866 = .ok (.iload 5, 2) := by decide +kernel
theorem dL_law_868 : decode cL_law 868 = .ok (.iconst 1, 1) := by decide +kernel
theorem dL_law_869 : decode cL_law 869 = .ok (.iadd, 1) := by decide +kernel
theorem dL_law_870 : decode cL_law 870 = .ok (.iaload, 1) := by decide +kernel
theorem dL_law_871 : decode cL_law 871 = .ok (.invokevirtual 180, 3) := by decide +kernel
theorem dL_law_874 : decode cL_law 874 = .ok (.istore 7, 2) := by decide +kernel
theorem dL_law_876 : decode cL_law 876 = .ok (.aload_n 2, 1) := by decide +kernel
theorem dL_law_877 : decode cL_law 877 = .ok (.invokevirtual 126, 3) := by decide +kernel
theorem dL_law_880 : decode cL_law 880 = .ok (.iload 6, 2) := by decide +kernel
theorem dL_law_882 : decode cL_law 882 = .ok (.if_icmp .eq 5, 3) := by decide +kernel
theorem dL_law_885 : decode cL_law 885 = .ok (.iconst 0, 1) := by decide +kernel
theorem dL_law_886 : decode cL_law 886 = .ok (.ireturn, 1) := by decide +kernel
theorem dL_law_887 : decode cL_law 887 = .ok (.iload 6, 2) := by decide +kernel
theorem dL_law_889 : decode cL_law 889 = .ok (.ifCond .ne 15, 3) := by decide +kernel
theorem dL_law_892 : decode cL_law 892 = .ok (.aload_n 3, 1) := by decide +kernel
theorem dL_law_893 : decode cL_law 893 = .ok (.iconst 0, 1) := by decide +kernel
theorem dL_law_894 : decode cL_law 894 = .ok (.laload, 1) := by decide +kernel
theorem dL_law_895 : decode cL_law 895 = .ok (.iload 7, 2) := by decide +kernel
theorem dL_law_897 : decode cL_law 897 = .ok (.i2l, 1) := by decide +kernel
theorem dL_law_898 : decode cL_law 898 = .ok (.lcmp, 1) := by decide +kernel
theorem dL_law_899 : decode cL_law 899 = .ok (.ifCond .eq 5, 3) := by decide +kernel
theorem dL_law_902 : decode cL_law 902 = .ok (.iconst 0, 1) := by decide +kernel
theorem dL_law_903 : decode cL_law 903 = .ok (.ireturn, 1) := by decide +kernel
theorem dL_law_904 : decode cL_law 904 = .ok (.goto 1355, 3) := by decide +kernel
theorem dL_law_907 : decode cL_law 907 = .ok (.aload_n 1, 1) := by decide +kernel
theorem dL_law_908 : decode cL_law 908 = .ok (.invokevirtual 181, 3) := by decide +kernel
theorem dL_law_911 : decode cL_law 911 = .ok (.aload_n 2, 1) := by decide +kernel
theorem dL_law_912 : decode cL_law 912 = .ok (.invokevirtual 184, 3) := by decide +kernel
theorem dL_law_915 : decode cL_law 915 = .ok (.if_icmp .eq 1344, 3) := by decide +kernel
theorem dL_law_918 : decode cL_law 918 = .ok (.iconst 0, 1) := by decide +kernel
theorem dL_law_919 : decode cL_law 919 = .ok (.ireturn, 1) := by decide +kernel
theorem dL_law_920 : decode cL_law 920 = .ok (.aload_n 1, 1) := by decide +kernel
theorem dL_law_921 : decode cL_law 921 = .ok (.aload_n 0, 1) := by decide +kernel
theorem dL_law_922 : decode cL_law 922 = .ok (.iload 5, 2) := by decide +kernel
theorem dL_law_924 : decode cL_law 924 = .ok (.iconst 1, 1) := by decide +kernel
theorem dL_law_925 : decode cL_law 925 = .ok (.iadd, 1) := by decide +kernel
theorem dL_law_926 : decode cL_law 926 = .ok (.iaload, 1) := by decide +kernel
theorem dL_law_927 : decode cL_law 927 = .ok (.aload_n 3, 1) := by decide +kernel
theorem dL_law_928 : decode cL_law 928 = .ok (.invokestatic 185, 3) := by decide +kernel
theorem dL_law_931 : decode cL_law 931 = .ok (.istore 6, 2) := by decide +kernel
theorem dL_law_933 : decode cL_law 933 = .ok (.aload_n 2, 1) := by decide +kernel
theorem dL_law_934 : decode cL_law 934 = .ok (.aload_n 0, 1) := by decide +kernel
theorem dL_law_935 : decode cL_law 935 = .ok (.iload 5, 2) := by decide +kernel
theorem dL_law_937 : decode cL_law 937 = .ok (.iconst 1, 1) := by decide +kernel
theorem dL_law_938 : decode cL_law 938 = .ok (.iadd, 1) := by decide +kernel
theorem dL_law_939 : decode cL_law 939 = .ok (.iaload, 1) := by decide +kernel
theorem dL_law_940 : decode cL_law 940 = .ok (.invokevirtual 187, 3) := by decide +kernel
theorem dL_law_943 : decode cL_law 943 = .ok (.istore 7, 2) := by decide +kernel
theorem dL_law_945 : decode cL_law 945 = .ok (.aload_n 2, 1) := by decide +kernel
theorem dL_law_946 : decode cL_law 946 = .ok (.invokevirtual 126, 3) := by decide +kernel
theorem dL_law_949 : decode cL_law 949 = .ok (.iload 6, 2) := by decide +kernel
theorem dL_law_951 : decode cL_law 951 = .ok (.if_icmp .eq 5, 3) := by decide +kernel
theorem dL_law_954 : decode cL_law 954 = .ok (.iconst 0, 1) := by decide +kernel
theorem dL_law_955 : decode cL_law 955 = .ok (.ireturn, 1) := by decide +kernel
theorem dL_law_956 : decode cL_law 956 = .ok (.iload 6, 2) := by decide +kernel
theorem dL_law_958 : decode cL_law 958 = .ok (.ifCond .ne 15, 3) := by decide +kernel
theorem dL_law_961 : decode cL_law 961 = .ok (.aload_n 3, 1) := by decide +kernel
theorem dL_law_962 : decode cL_law 962 = .ok (.iconst 0, 1) := by decide +kernel
theorem dL_law_963 : decode cL_law 963 = .ok (.laload, 1) := by decide +kernel
theorem dL_law_964 : decode cL_law 964 = .ok (.iload 7, 2) := by decide +kernel
theorem dL_law_966 : decode cL_law 966 = .ok (.i2l, 1) := by decide +kernel
theorem dL_law_967 : decode cL_law 967 = .ok (.lcmp, 1) := by decide +kernel
theorem dL_law_968 : decode cL_law 968 = .ok (.ifCond .eq 5, 3) := by decide +kernel
theorem dL_law_971 : decode cL_law 971 = .ok (.iconst 0, 1) := by decide +kernel
theorem dL_law_972 : decode cL_law 972 = .ok (.ireturn, 1) := by decide +kernel
theorem dL_law_973 : decode cL_law 973 = .ok (.goto 1286, 3) := by decide +kernel
theorem dL_law_976 : decode cL_law 976 = .ok (.aload_n 1, 1) := by decide +kernel
theorem dL_law_977 : decode cL_law 977 = .ok (.invokevirtual 188, 3) := by decide +kernel
theorem dL_law_980 : decode cL_law 980 = .ok (.aload_n 2, 1) := by decide +kernel
theorem dL_law_981 : decode cL_law 981 = .ok (.invokevirtual 191, 3) := by decide +kernel
theorem dL_law_984 : decode cL_law 984 = .ok (.lcmp, 1) := by decide +kernel
theorem dL_law_985 : decode cL_law 985 = .ok (.ifCond .eq 1274, 3) := by decide +kernel
theorem dL_law_988 : decode cL_law 988 = .ok (.iconst 0, 1) := by decide +kernel
theorem dL_law_989 : decode cL_law 989 = .ok (.ireturn, 1) := by decide +kernel
theorem dL_law_990 : decode cL_law 990 = .ok (.aload_n 1, 1) := by decide +kernel
theorem dL_law_991 : decode cL_law 991 = .ok (.aload_n 0, 1) := by decide +kernel
theorem dL_law_992 : decode cL_law 992 = .ok (.iload 5, 2) := by decide +kernel
theorem dL_law_994 : decode cL_law 994 = .ok (.iconst 1, 1) := by decide +kernel
theorem dL_law_995 : decode cL_law 995 = .ok (.iadd, 1) := by decide +kernel
theorem dL_law_996 : decode cL_law 996 = .ok (.iaload, 1) := by decide +kernel
theorem dL_law_997 : decode cL_law 997 = .ok (.aload_n 3, 1) := by decide +kernel
theorem dL_law_998 : decode cL_law 998 = .ok (.invokestatic 192, 3) := by decide +kernel
theorem dL_law_1001 : decode cL_law 1001 = .ok (.istore 6, 2) := by decide +kernel
theorem dL_law_1003 : decode cL_law 1003 = .ok (.aload_n 2, 1) := by decide +kernel
theorem dL_law_1004 : decode cL_law 1004 = .ok (.aload_n 0, 1) := by decide +kernel
theorem dL_law_1005 : decode cL_law 1005 = .ok (.iload 5, 2) := by decide +kernel
theorem dL_law_1007 : decode cL_law 1007 = .ok (.iconst 1, 1) := by decide +kernel
theorem dL_law_1008 : decode cL_law 1008 = .ok (.iadd, 1) := by decide +kernel
theorem dL_law_1009 : decode cL_law 1009 = .ok (.iaload, 1) := by decide +kernel
theorem dL_law_1010 : decode cL_law 1010 = .ok (.invokevirtual 194, 3) := by decide +kernel
theorem dL_law_1013 : decode cL_law 1013 = .ok (.lstore 7, 2) := by decide +kernel
theorem dL_law_1015 : decode cL_law 1015 = .ok (.aload_n 2, 1) := by decide +kernel
theorem dL_law_1016 : decode cL_law 1016 = .ok (.invokevirtual 126, 3) := by decide +kernel
theorem dL_law_1019 : decode cL_law 1019 = .ok (.iload 6, 2) := by decide +kernel
theorem dL_law_1021 : decode cL_law 1021 = .ok (.if_icmp .eq 5, 3) := by decide +kernel
theorem dL_law_1024 : decode cL_law 1024 = .ok (.iconst 0, 1) := by decide +kernel
theorem dL_law_1025 : decode cL_law 1025 = .ok (.ireturn, 1) := by decide +kernel
theorem dL_law_1026 : decode cL_law 1026 = .ok (.iload 6, 2) := by decide +kernel
theorem dL_law_1028 : decode cL_law 1028 = .ok (.ifCond .ne 14, 3) := by decide +kernel
theorem dL_law_1031 : decode cL_law 1031 = .ok (.aload_n 3, 1) := by decide +kernel
theorem dL_law_1032 : decode cL_law 1032 = .ok (.iconst 0, 1) := by decide +kernel
theorem dL_law_1033 : decode cL_law 1033 = .ok (.laload, 1) := by decide +kernel
theorem dL_law_1034 : decode cL_law 1034 = .ok (.lload 7, 2) := by decide +kernel
theorem dL_law_1036 : decode cL_law 1036 = .ok (.lcmp, 1) := by decide +kernel
theorem dL_law_1037 : decode cL_law 1037 = .ok (.ifCond .eq 5, 3) := by decide +kernel
theorem dL_law_1040 : decode cL_law 1040 = .ok (.iconst 0, 1) := by decide +kernel
theorem dL_law_1041 : decode cL_law 1041 = .ok (.ireturn, 1) := by decide +kernel
theorem dL_law_1042 : decode cL_law 1042 = .ok (.goto 1217, 3) := by decide +kernel
theorem dL_law_1045 : decode cL_law 1045 = .ok (.aload_n 1, 1) := by decide +kernel
theorem dL_law_1046 : decode cL_law 1046 = .ok (.aload_n 0, 1) := by decide +kernel
theorem dL_law_1047 : decode cL_law 1047 = .ok (.iload 5, 2) := by decide +kernel
theorem dL_law_1049 : decode cL_law 1049 = .ok (.iconst 1, 1) := by decide +kernel
theorem dL_law_1050 : decode cL_law 1050 = .ok (.iadd, 1) := by decide +kernel
theorem dL_law_1051 : decode cL_law 1051 = .ok (.iaload, 1) := by decide +kernel
theorem dL_law_1052 : decode cL_law 1052 = .ok (.aload_n 3, 1) := by decide +kernel
theorem dL_law_1053 : decode cL_law 1053 = .ok (.invokestatic 195, 3) := by decide +kernel
theorem dL_law_1056 : decode cL_law 1056 = .ok (.istore 6, 2) := by decide +kernel
theorem dL_law_1058 : decode cL_law 1058 = .ok (.aload_n 2, 1) := by decide +kernel
theorem dL_law_1059 : decode cL_law 1059 = .ok (.aload_n 0, 1) := by decide +kernel
theorem dL_law_1060 : decode cL_law 1060 = .ok (.iload 5, 2) := by decide +kernel
theorem dL_law_1062 : decode cL_law 1062 = .ok (.iconst 1, 1) := by decide +kernel
theorem dL_law_1063 : decode cL_law 1063 = .ok (.iadd, 1) := by decide +kernel
theorem dL_law_1064 : decode cL_law 1064 = .ok (.iaload, 1) := by decide +kernel
theorem dL_law_1065 : decode cL_law 1065 = .ok (.invokevirtual 197, 3) := by decide +kernel
theorem dL_law_1068 : decode cL_law 1068 = .ok (.istore 7, 2) := by decide +kernel
theorem dL_law_1070 : decode cL_law 1070 = .ok (.aload_n 2, 1) := by decide +kernel
theorem dL_law_1071 : decode cL_law 1071 = .ok (.invokevirtual 126, 3) := by decide +kernel
theorem dL_law_1074 : decode cL_law 1074 = .ok (.iload 6, 2) := by decide +kernel
theorem dL_law_1076 : decode cL_law 1076 = .ok (.if_icmp .eq 5, 3) := by decide +kernel
theorem dL_law_1079 : decode cL_law 1079 = .ok (.iconst 0, 1) := by decide +kernel
theorem dL_law_1080 : decode cL_law 1080 = .ok (.ireturn, 1) := by decide +kernel
theorem dL_law_1081 : decode cL_law 1081 = .ok (.iload 6, 2) := by decide +kernel
theorem dL_law_1083 : decode cL_law 1083 = .ok (.ifCond .ne 15, 3) := by decide +kernel
theorem dL_law_1086 : decode cL_law 1086 = .ok (.aload_n 3, 1) := by decide +kernel
theorem dL_law_1087 : decode cL_law 1087 = .ok (.iconst 0, 1) := by decide +kernel
theorem dL_law_1088 : decode cL_law 1088 = .ok (.laload, 1) := by decide +kernel
theorem dL_law_1089 : decode cL_law 1089 = .ok (.iload 7, 2) := by decide +kernel
theorem dL_law_1091 : decode cL_law 1091 = .ok (.i2l, 1) := by decide +kernel
theorem dL_law_1092 : decode cL_law 1092 = .ok (.lcmp, 1) := by decide +kernel
theorem dL_law_1093 : decode cL_law 1093 = .ok (.ifCond .eq 5, 3) := by decide +kernel
theorem dL_law_1096 : decode cL_law 1096 = .ok (.iconst 0, 1) := by decide +kernel
theorem dL_law_1097 : decode cL_law 1097 = .ok (.ireturn, 1) := by decide +kernel
theorem dL_law_1098 : decode cL_law 1098 = .ok (.goto 1161, 3) := by decide +kernel
theorem dL_law_1101 : decode cL_law 1101 = .ok (.aload_n 1, 1) := by decide +kernel
theorem dL_law_1102 : decode cL_law 1102 = .ok (.aload_n 0, 1) := by decide +kernel
theorem dL_law_1103 : decode cL_law 1103 = .ok (.iload 5, 2) := by decide +kernel
theorem dL_law_1105 : decode cL_law 1105 = .ok (.iconst 1, 1) := by decide +kernel
theorem dL_law_1106 : decode cL_law 1106 = .ok (.iadd, 1) := by decide +kernel
theorem dL_law_1107 : decode cL_law 1107 = .ok (.iaload, 1) := by decide +kernel
theorem dL_law_1108 : decode cL_law 1108 = .ok (.aload_n 0, 1) := by decide +kernel
theorem dL_law_1109 : decode cL_law 1109 = .ok (.iload 5, 2) := by decide +kernel
theorem dL_law_1111 : decode cL_law 1111 = .ok (.iconst 2, 1) := by decide +kernel
theorem dL_law_1112 : decode cL_law 1112 = .ok (.iadd, 1) := by decide +kernel
theorem dL_law_1113 : decode cL_law 1113 = .ok (.iaload, 1) := by decide +kernel
theorem dL_law_1114 : decode cL_law 1114 = .ok (.aload_n 3, 1) := by decide +kernel
theorem dL_law_1115 : decode cL_law 1115 = .ok (.invokestatic 198, 3) := by decide +kernel
theorem dL_law_1118 : decode cL_law 1118 = .ok (.istore 6, 2) := by decide +kernel
theorem dL_law_1120 : decode cL_law 1120 = .ok (.aload_n 2, 1) := by decide +kernel
theorem dL_law_1121 : decode cL_law 1121 = .ok (.aload_n 0, 1) := by decide +kernel
theorem dL_law_1122 : decode cL_law 1122 = .ok (.iload 5, 2) := by decide +kernel
theorem dL_law_1124 : decode cL_law 1124 = .ok (.iconst 1, 1) := by decide +kernel
theorem dL_law_1125 : decode cL_law 1125 = .ok (.iadd, 1) := by decide +kernel
theorem dL_law_1126 : decode cL_law 1126 = .ok (.iaload, 1) := by decide +kernel
theorem dL_law_1127 : decode cL_law 1127 = .ok (.aload_n 0, 1) := by decide +kernel
theorem dL_law_1128 : decode cL_law 1128 = .ok (.iload 5, 2) := by decide +kernel
theorem dL_law_1130 : decode cL_law 1130 = .ok (.iconst 2, 1) := by decide +kernel
theorem dL_law_1131 : decode cL_law 1131 = .ok (.iadd, 1) := by decide +kernel
theorem dL_law_1132 : decode cL_law 1132 = .ok (.iaload, 1) := by decide +kernel
theorem dL_law_1133 : decode cL_law 1133 = .ok (.invokevirtual 200, 3) := by decide +kernel
theorem dL_law_1136 : decode cL_law 1136 = .ok (.lstore 7, 2) := by decide +kernel
theorem dL_law_1138 : decode cL_law 1138 = .ok (.aload_n 2, 1) := by decide +kernel
theorem dL_law_1139 : decode cL_law 1139 = .ok (.invokevirtual 126, 3) := by decide +kernel
theorem dL_law_1142 : decode cL_law 1142 = .ok (.iload 6, 2) := by decide +kernel
theorem dL_law_1144 : decode cL_law 1144 = .ok (.if_icmp .eq 5, 3) := by decide +kernel
theorem dL_law_1147 : decode cL_law 1147 = .ok (.iconst 0, 1) := by decide +kernel
theorem dL_law_1148 : decode cL_law 1148 = .ok (.ireturn, 1) := by decide +kernel
theorem dL_law_1149 : decode cL_law 1149 = .ok (.iload 6, 2) := by decide +kernel
theorem dL_law_1151 : decode cL_law 1151 = .ok (.ifCond .ne 14, 3) := by decide +kernel
theorem dL_law_1154 : decode cL_law 1154 = .ok (.aload_n 3, 1) := by decide +kernel
theorem dL_law_1155 : decode cL_law 1155 = .ok (.iconst 0, 1) := by decide +kernel
theorem dL_law_1156 : decode cL_law 1156 = .ok (.laload, 1) := by decide +kernel
theorem dL_law_1157 : decode cL_law 1157 = .ok (.lload 7, 2) := by decide +kernel
theorem dL_law_1159 : decode cL_law 1159 = .ok (.lcmp, 1) := by decide +kernel
theorem dL_law_1160 : decode cL_law 1160 = .ok (.ifCond .eq 5, 3) := by decide +kernel
theorem dL_law_1163 : decode cL_law 1163 = .ok (.iconst 0, 1) := by decide +kernel
theorem dL_law_1164 : decode cL_law 1164 = .ok (.ireturn, 1) := by decide +kernel
theorem dL_law_1165 : decode cL_law 1165 = .ok (.goto 1094, 3) := by decide +kernel
theorem dL_law_1168 : decode cL_law 1168 = .ok (.aload_n 1, 1) := by decide +kernel
theorem dL_law_1169 : decode cL_law 1169 = .ok (.aload_n 0, 1) := by decide +kernel
theorem dL_law_1170 : decode cL_law 1170 = .ok (.iload 5, 2) := by decide +kernel
theorem dL_law_1172 : decode cL_law 1172 = .ok (.iconst 1, 1) := by decide +kernel
theorem dL_law_1173 : decode cL_law 1173 = .ok (.iadd, 1) := by decide +kernel
theorem dL_law_1174 : decode cL_law 1174 = .ok (.iaload, 1) := by decide +kernel
theorem dL_law_1175 : decode cL_law 1175 = .ok (.aload_n 0, 1) := by decide +kernel
theorem dL_law_1176 : decode cL_law 1176 = .ok (.iload 5, 2) := by decide +kernel
theorem dL_law_1178 : decode cL_law 1178 = .ok (.iconst 2, 1) := by decide +kernel
theorem dL_law_1179 : decode cL_law 1179 = .ok (.iadd, 1) := by decide +kernel
theorem dL_law_1180 : decode cL_law 1180 = .ok (.iaload, 1) := by decide +kernel
theorem dL_law_1181 : decode cL_law 1181 = .ok (.aload_n 3, 1) := by decide +kernel
theorem dL_law_1182 : decode cL_law 1182 = .ok (.invokestatic 201, 3) := by decide +kernel
theorem dL_law_1185 : decode cL_law 1185 = .ok (.istore 6, 2) := by decide +kernel
theorem dL_law_1187 : decode cL_law 1187 = .ok (.aload_n 2, 1) := by decide +kernel
theorem dL_law_1188 : decode cL_law 1188 = .ok (.aload_n 0, 1) := by decide +kernel
theorem dL_law_1189 : decode cL_law 1189 = .ok (.iload 5, 2) := by decide +kernel
theorem dL_law_1191 : decode cL_law 1191 = .ok (.iconst 1, 1) := by decide +kernel
theorem dL_law_1192 : decode cL_law 1192 = .ok (.iadd, 1) := by decide +kernel
theorem dL_law_1193 : decode cL_law 1193 = .ok (.iaload, 1) := by decide +kernel
theorem dL_law_1194 : decode cL_law 1194 = .ok (.aload_n 0, 1) := by decide +kernel
theorem dL_law_1195 : decode cL_law 1195 = .ok (.iload 5, 2) := by decide +kernel
theorem dL_law_1197 : decode cL_law 1197 = .ok (.iconst 2, 1) := by decide +kernel
theorem dL_law_1198 : decode cL_law 1198 = .ok (.iadd, 1) := by decide +kernel
theorem dL_law_1199 : decode cL_law 1199 = .ok (.iaload, 1) := by decide +kernel
theorem dL_law_1200 : decode cL_law 1200 = .ok (.invokevirtual 203, 3) := by decide +kernel
theorem dL_law_1203 : decode cL_law 1203 = .ok (.lstore 7, 2) := by decide +kernel
theorem dL_law_1205 : decode cL_law 1205 = .ok (.aload_n 2, 1) := by decide +kernel
theorem dL_law_1206 : decode cL_law 1206 = .ok (.invokevirtual 126, 3) := by decide +kernel
theorem dL_law_1209 : decode cL_law 1209 = .ok (.iload 6, 2) := by decide +kernel
theorem dL_law_1211 : decode cL_law 1211 = .ok (.if_icmp .eq 5, 3) := by decide +kernel
theorem dL_law_1214 : decode cL_law 1214 = .ok (.iconst 0, 1) := by decide +kernel
theorem dL_law_1215 : decode cL_law 1215 = .ok (.ireturn, 1) := by decide +kernel
theorem dL_law_1216 : decode cL_law 1216 = .ok (.iload 6, 2) := by decide +kernel
theorem dL_law_1218 : decode cL_law 1218 = .ok (.ifCond .ne 14, 3) := by decide +kernel
theorem dL_law_1221 : decode cL_law 1221 = .ok (.aload_n 3, 1) := by decide +kernel
theorem dL_law_1222 : decode cL_law 1222 = .ok (.iconst 0, 1) := by decide +kernel
theorem dL_law_1223 : decode cL_law 1223 = .ok (.laload, 1) := by decide +kernel
theorem dL_law_1224 : decode cL_law 1224 = .ok (.lload 7, 2) := by decide +kernel
theorem dL_law_1226 : decode cL_law 1226 = .ok (.lcmp, 1) := by decide +kernel
theorem dL_law_1227 : decode cL_law 1227 = .ok (.ifCond .eq 5, 3) := by decide +kernel
theorem dL_law_1230 : decode cL_law 1230 = .ok (.iconst 0, 1) := by decide +kernel
theorem dL_law_1231 : decode cL_law 1231 = .ok (.ireturn, 1) := by decide +kernel
theorem dL_law_1232 : decode cL_law 1232 = .ok (.goto 1027, 3) := by decide +kernel
theorem dL_law_1235 : decode cL_law 1235 = .ok (.aload_n 1, 1) := by decide +kernel
theorem dL_law_1236 : decode cL_law 1236 = .ok (.aload_n 0, 1) := by decide +kernel
theorem dL_law_1237 : decode cL_law 1237 = .ok (.iload 5, 2) := by decide +kernel
theorem dL_law_1239 : decode cL_law 1239 = .ok (.iconst 1, 1) := by decide +kernel
theorem dL_law_1240 : decode cL_law 1240 = .ok (.iadd, 1) := by decide +kernel
theorem dL_law_1241 : decode cL_law 1241 = .ok (.iaload, 1) := by decide +kernel
theorem dL_law_1242 : decode cL_law 1242 = .ok (.aload_n 0, 1) := by decide +kernel
theorem dL_law_1243 : decode cL_law 1243 = .ok (.iload 5, 2) := by decide +kernel
theorem dL_law_1245 : decode cL_law 1245 = .ok (.iconst 2, 1) := by decide +kernel
theorem dL_law_1246 : decode cL_law 1246 = .ok (.iadd, 1) := by decide +kernel
theorem dL_law_1247 : decode cL_law 1247 = .ok (.iaload, 1) := by decide +kernel
theorem dL_law_1248 : decode cL_law 1248 = .ok (.aload_n 3, 1) := by decide +kernel
theorem dL_law_1249 : decode cL_law 1249 = .ok (.invokestatic 204, 3) := by decide +kernel
theorem dL_law_1252 : decode cL_law 1252 = .ok (.istore 6, 2) := by decide +kernel
theorem dL_law_1254 : decode cL_law 1254 = .ok (.aload_n 2, 1) := by decide +kernel
theorem dL_law_1255 : decode cL_law 1255 = .ok (.aload_n 0, 1) := by decide +kernel
theorem dL_law_1256 : decode cL_law 1256 = .ok (.iload 5, 2) := by decide +kernel
theorem dL_law_1258 : decode cL_law 1258 = .ok (.iconst 1, 1) := by decide +kernel
theorem dL_law_1259 : decode cL_law 1259 = .ok (.iadd, 1) := by decide +kernel
theorem dL_law_1260 : decode cL_law 1260 = .ok (.iaload, 1) := by decide +kernel
theorem dL_law_1261 : decode cL_law 1261 = .ok (.aload_n 0, 1) := by decide +kernel
theorem dL_law_1262 : decode cL_law 1262 = .ok (.iload 5, 2) := by decide +kernel
theorem dL_law_1264 : decode cL_law 1264 = .ok (.iconst 2, 1) := by decide +kernel
theorem dL_law_1265 : decode cL_law 1265 = .ok (.iadd, 1) := by decide +kernel
theorem dL_law_1266 : decode cL_law 1266 = .ok (.iaload, 1) := by decide +kernel
theorem dL_law_1267 : decode cL_law 1267 = .ok (.invokevirtual 206, 3) := by decide +kernel
theorem dL_law_1270 : decode cL_law 1270 = .ok (.lstore 7, 2) := by decide +kernel
theorem dL_law_1272 : decode cL_law 1272 = .ok (.aload_n 2, 1) := by decide +kernel
theorem dL_law_1273 : decode cL_law 1273 = .ok (.invokevirtual 126, 3) := by decide +kernel
theorem dL_law_1276 : decode cL_law 1276 = .ok (.iload 6, 2) := by decide +kernel
theorem dL_law_1278 : decode cL_law 1278 = .ok (.if_icmp .eq 5, 3) := by decide +kernel
theorem dL_law_1281 : decode cL_law 1281 = .ok (.iconst 0, 1) := by decide +kernel
theorem dL_law_1282 : decode cL_law 1282 = .ok (.ireturn, 1) := by decide +kernel
theorem dL_law_1283 : decode cL_law 1283 = .ok (.iload 6, 2) := by decide +kernel
theorem dL_law_1285 : decode cL_law 1285 = .ok (.ifCond .ne 14, 3) := by decide +kernel
theorem dL_law_1288 : decode cL_law 1288 = .ok (.aload_n 3, 1) := by decide +kernel
theorem dL_law_1289 : decode cL_law 1289 = .ok (.iconst 0, 1) := by decide +kernel
theorem dL_law_1290 : decode cL_law 1290 = .ok (.laload, 1) := by decide +kernel
theorem dL_law_1291 : decode cL_law 1291 = .ok (.lload 7, 2) := by decide +kernel
theorem dL_law_1293 : decode cL_law 1293 = .ok (.lcmp, 1) := by decide +kernel
theorem dL_law_1294 : decode cL_law 1294 = .ok (.ifCond .eq 5, 3) := by decide +kernel
theorem dL_law_1297 : decode cL_law 1297 = .ok (.iconst 0, 1) := by decide +kernel
theorem dL_law_1298 : decode cL_law 1298 = .ok (.ireturn, 1) := by decide +kernel
theorem dL_law_1299 : decode cL_law 1299 = .ok (.goto 960, 3) := by decide +kernel
theorem dL_law_1302 : decode cL_law 1302 = .ok (.aload_n 1, 1) := by decide +kernel
theorem dL_law_1303 : decode cL_law 1303 = .ok (.aload_n 0, 1) := by decide +kernel
theorem dL_law_1304 : decode cL_law 1304 = .ok (.iload 5, 2) := by decide +kernel
theorem dL_law_1306 : decode cL_law 1306 = .ok (.iconst 1, 1) := by decide +kernel
theorem dL_law_1307 : decode cL_law 1307 = .ok (.iadd, 1) := by decide +kernel
theorem dL_law_1308 : decode cL_law 1308 = .ok (.iaload, 1) := by decide +kernel
theorem dL_law_1309 : decode cL_law 1309 = .ok (.aload_n 3, 1) := by decide +kernel
theorem dL_law_1310 : decode cL_law 1310 = .ok (.invokestatic 207, 3) := by decide +kernel
theorem dL_law_1313 : decode cL_law 1313 = .ok (.istore 6, 2) := by decide +kernel
theorem dL_law_1315 : decode cL_law 1315 = .ok (.aload_n 2, 1) := by decide +kernel
theorem dL_law_1316 : decode cL_law 1316 = .ok (.aload_n 0, 1) := by decide +kernel
theorem dL_law_1317 : decode cL_law 1317 = .ok (.iload 5, 2) := by decide +kernel
theorem dL_law_1319 : decode cL_law 1319 = .ok (.iconst 1, 1) := by decide +kernel
theorem dL_law_1320 : decode cL_law 1320 = .ok (.iadd, 1) := by decide +kernel
theorem dL_law_1321 : decode cL_law 1321 = .ok (.iaload, 1) := by decide +kernel
theorem dL_law_1322 : decode cL_law 1322 = .ok (.invokevirtual 209, 3) := by decide +kernel
theorem dL_law_1325 : decode cL_law 1325 = .ok (.lstore 7, 2) := by decide +kernel
theorem dL_law_1327 : decode cL_law 1327 = .ok (.aload_n 2, 1) := by decide +kernel
theorem dL_law_1328 : decode cL_law 1328 = .ok (.invokevirtual 126, 3) := by decide +kernel
theorem dL_law_1331 : decode cL_law 1331 = .ok (.iload 6, 2) := by decide +kernel
theorem dL_law_1333 : decode cL_law 1333 = .ok (.if_icmp .eq 5, 3) := by decide +kernel
theorem dL_law_1336 : decode cL_law 1336 = .ok (.iconst 0, 1) := by decide +kernel
theorem dL_law_1337 : decode cL_law 1337 = .ok (.ireturn, 1) := by decide +kernel
theorem dL_law_1338 : decode cL_law 1338 = .ok (.iload 6, 2) := by decide +kernel
theorem dL_law_1340 : decode cL_law 1340 = .ok (.ifCond .ne 14, 3) := by decide +kernel
theorem dL_law_1343 : decode cL_law 1343 = .ok (.aload_n 3, 1) := by decide +kernel
theorem dL_law_1344 : decode cL_law 1344 = .ok (.iconst 0, 1) := by decide +kernel
theorem dL_law_1345 : decode cL_law 1345 = .ok (.laload, 1) := by decide +kernel
theorem dL_law_1346 : decode cL_law 1346 = .ok (.lload 7, 2) := by decide +kernel
theorem dL_law_1348 : decode cL_law 1348 = .ok (.lcmp, 1) := by decide +kernel
theorem dL_law_1349 : decode cL_law 1349 = .ok (.ifCond .eq 5, 3) := by decide +kernel
theorem dL_law_1352 : decode cL_law 1352 = .ok (.iconst 0, 1) := by decide +kernel
theorem dL_law_1353 : decode cL_law 1353 = .ok (.ireturn, 1) := by decide +kernel
theorem dL_law_1354 : decode cL_law 1354 = .ok (.goto 905, 3) := by decide +kernel
theorem dL_law_1357 : decode cL_law 1357 = .ok (.aload_n 1, 1) := by decide +kernel
theorem dL_law_1358 : decode cL_law 1358 = .ok (.aload_n 0, 1) := by decide +kernel
theorem dL_law_1359 : decode cL_law 1359 = .ok (.iload 5, 2) := by decide +kernel
theorem dL_law_1361 : decode cL_law 1361 = .ok (.iconst 1, 1) := by decide +kernel
theorem dL_law_1362 : decode cL_law 1362 = .ok (.iadd, 1) := by decide +kernel
theorem dL_law_1363 : decode cL_law 1363 = .ok (.iaload, 1) := by decide +kernel
theorem dL_law_1364 : decode cL_law 1364 = .ok (.aload_n 0, 1) := by decide +kernel
theorem dL_law_1365 : decode cL_law 1365 = .ok (.iload 5, 2) := by decide +kernel
theorem dL_law_1367 : decode cL_law 1367 = .ok (.iconst 2, 1) := by decide +kernel
theorem dL_law_1368 : decode cL_law 1368 = .ok (.iadd, 1) := by decide +kernel
theorem dL_law_1369 : decode cL_law 1369 = .ok (.iaload, 1) := by decide +kernel
theorem dL_law_1370 : decode cL_law 1370 = .ok (.aload_n 3, 1) := by decide +kernel
theorem dL_law_1371 : decode cL_law 1371 = .ok (.invokestatic 210, 3) := by decide +kernel
theorem dL_law_1374 : decode cL_law 1374 = .ok (.istore 6, 2) := by decide +kernel
theorem dL_law_1376 : decode cL_law 1376 = .ok (.aload_n 2, 1) := by decide +kernel
theorem dL_law_1377 : decode cL_law 1377 = .ok (.aload_n 0, 1) := by decide +kernel
theorem dL_law_1378 : decode cL_law 1378 = .ok (.iload 5, 2) := by decide +kernel
theorem dL_law_1380 : decode cL_law 1380 = .ok (.iconst 1, 1) := by decide +kernel
theorem dL_law_1381 : decode cL_law 1381 = .ok (.iadd, 1) := by decide +kernel
theorem dL_law_1382 : decode cL_law 1382 = .ok (.iaload, 1) := by decide +kernel
theorem dL_law_1383 : decode cL_law 1383 = .ok (.aload_n 0, 1) := by decide +kernel
theorem dL_law_1384 : decode cL_law 1384 = .ok (.iload 5, 2) := by decide +kernel
theorem dL_law_1386 : decode cL_law 1386 = .ok (.iconst 2, 1) := by decide +kernel
theorem dL_law_1387 : decode cL_law 1387 = .ok (.iadd, 1) := by decide +kernel
theorem dL_law_1388 : decode cL_law 1388 = .ok (.iaload, 1) := by decide +kernel
theorem dL_law_1389 : decode cL_law 1389 = .ok (.invokevirtual 212, 3) := by decide +kernel
theorem dL_law_1392 : decode cL_law 1392 = .ok (.lstore 7, 2) := by decide +kernel
theorem dL_law_1394 : decode cL_law 1394 = .ok (.aload_n 2, 1) := by decide +kernel
theorem dL_law_1395 : decode cL_law 1395 = .ok (.invokevirtual 126, 3) := by decide +kernel
theorem dL_law_1398 : decode cL_law 1398 = .ok (.iload 6, 2) := by decide +kernel
theorem dL_law_1400 : decode cL_law 1400 = .ok (.if_icmp .eq 5, 3) := by decide +kernel
theorem dL_law_1403 : decode cL_law 1403 = .ok (.iconst 0, 1) := by decide +kernel
theorem dL_law_1404 : decode cL_law 1404 = .ok (.ireturn, 1) := by decide +kernel
theorem dL_law_1405 : decode cL_law 1405 = .ok (.iload 6, 2) := by decide +kernel
theorem dL_law_1407 : decode cL_law 1407 = .ok (.ifCond .ne 14, 3) := by decide +kernel
theorem dL_law_1410 : decode cL_law 1410 = .ok (.aload_n 3, 1) := by decide +kernel
theorem dL_law_1411 : decode cL_law 1411 = .ok (.iconst 0, 1) := by decide +kernel
theorem dL_law_1412 : decode cL_law 1412 = .ok (.laload, 1) := by decide +kernel
theorem dL_law_1413 : decode cL_law 1413 = .ok (.lload 7, 2) := by decide +kernel
theorem dL_law_1415 : decode cL_law 1415 = .ok (.lcmp, 1) := by decide +kernel
theorem dL_law_1416 : decode cL_law 1416 = .ok (.ifCond .eq 5, 3) := by decide +kernel
theorem dL_law_1419 : decode cL_law 1419 = .ok (.iconst 0, 1) := by decide +kernel
theorem dL_law_1420 : decode cL_law 1420 = .ok (.ireturn, 1) := by decide +kernel
theorem dL_law_1421 : decode cL_law 1421 = .ok (.goto 838, 3) := by decide +kernel
theorem dL_law_1424 : decode cL_law 1424 = .ok (.aload_n 1, 1) := by decide +kernel
theorem dL_law_1425 : decode cL_law 1425 = .ok (.aload_n 0, 1) := by decide +kernel
theorem dL_law_1426 : decode cL_law 1426 = .ok (.iload 5, 2) := by decide +kernel
theorem dL_law_1428 : decode cL_law 1428 = .ok (.iconst 1, 1) := by decide +kernel
theorem dL_law_1429 : decode cL_law 1429 = .ok (.iadd, 1) := by decide +kernel
theorem dL_law_1430 : decode cL_law 1430 = .ok (.iaload, 1) := by decide +kernel
theorem dL_law_1431 : decode cL_law 1431 = .ok (.aload_n 3, 1) := by decide +kernel
theorem dL_law_1432 : decode cL_law 1432 = .ok (.invokestatic 213, 3) := by decide +kernel
theorem dL_law_1435 : decode cL_law 1435 = .ok (.istore 6, 2) := by decide +kernel
theorem dL_law_1437 : decode cL_law 1437 = .ok (.aload_n 2, 1) := by decide +kernel
theorem dL_law_1438 : decode cL_law 1438 = .ok (.aload_n 0, 1) := by decide +kernel
theorem dL_law_1439 : decode cL_law 1439 = .ok (.iload 5, 2) := by decide +kernel
theorem dL_law_1441 : decode cL_law 1441 = .ok (.iconst 1, 1) := by decide +kernel
theorem dL_law_1442 : decode cL_law 1442 = .ok (.iadd, 1) := by decide +kernel
theorem dL_law_1443 : decode cL_law 1443 = .ok (.iaload, 1) := by decide +kernel
theorem dL_law_1444 : decode cL_law 1444 = .ok (.invokevirtual 215, 3) := by decide +kernel
theorem dL_law_1447 : decode cL_law 1447 = .ok (.lstore 7, 2) := by decide +kernel
theorem dL_law_1449 : decode cL_law 1449 = .ok (.aload_n 2, 1) := by decide +kernel
theorem dL_law_1450 : decode cL_law 1450 = .ok (.invokevirtual 126, 3) := by decide +kernel
theorem dL_law_1453 : decode cL_law 1453 = .ok (.iload 6, 2) := by decide +kernel
theorem dL_law_1455 : decode cL_law 1455 = .ok (.if_icmp .eq 5, 3) := by decide +kernel
theorem dL_law_1458 : decode cL_law 1458 = .ok (.iconst 0, 1) := by decide +kernel
theorem dL_law_1459 : decode cL_law 1459 = .ok (.ireturn, 1) := by decide +kernel
theorem dL_law_1460 : decode cL_law 1460 = .ok (.iload 6, 2) := by decide +kernel
theorem dL_law_1462 : decode cL_law 1462 = .ok (.ifCond .ne 14, 3) := by decide +kernel
theorem dL_law_1465 : decode cL_law 1465 = .ok (.aload_n 3, 1) := by decide +kernel
theorem dL_law_1466 : decode cL_law 1466 = .ok (.iconst 0, 1) := by decide +kernel
theorem dL_law_1467 : decode cL_law 1467 = .ok (.laload, 1) := by decide +kernel
theorem dL_law_1468 : decode cL_law 1468 = .ok (.lload 7, 2) := by decide +kernel
theorem dL_law_1470 : decode cL_law 1470 = .ok (.lcmp, 1) := by decide +kernel
theorem dL_law_1471 : decode cL_law 1471 = .ok (.ifCond .eq 5, 3) := by decide +kernel
theorem dL_law_1474 : decode cL_law 1474 = .ok (.iconst 0, 1) := by decide +kernel
theorem dL_law_1475 : decode cL_law 1475 = .ok (.ireturn, 1) := by decide +kernel
theorem dL_law_1476 : decode cL_law 1476 = .ok (.goto 783, 3) := by decide +kernel
theorem dL_law_1479 : decode cL_law 1479 = .ok (.aload_n 1, 1) := by decide +kernel
theorem dL_law_1480 : decode cL_law 1480 = .ok (.aload_n 0, 1) := by decide +kernel
theorem dL_law_1481 : decode cL_law 1481 = .ok (.iload 5, 2) := by decide +kernel
theorem dL_law_1483 : decode cL_law 1483 = .ok (.iconst 1, 1) := by decide +kernel
theorem dL_law_1484 : decode cL_law 1484 = .ok (.iadd, 1) := by decide +kernel
theorem dL_law_1485 : decode cL_law 1485 = .ok (.iaload, 1) := by decide +kernel
theorem dL_law_1486 : decode cL_law 1486 = .ok (.aload_n 3, 1) := by decide +kernel
theorem dL_law_1487 : decode cL_law 1487 = .ok (.invokestatic 216, 3) := by decide +kernel
theorem dL_law_1490 : decode cL_law 1490 = .ok (.istore 6, 2) := by decide +kernel
theorem dL_law_1492 : decode cL_law 1492 = .ok (.aload_n 2, 1) := by decide +kernel
theorem dL_law_1493 : decode cL_law 1493 = .ok (.aload_n 0, 1) := by decide +kernel
theorem dL_law_1494 : decode cL_law 1494 = .ok (.iload 5, 2) := by decide +kernel
theorem dL_law_1496 : decode cL_law 1496 = .ok (.iconst 1, 1) := by decide +kernel
theorem dL_law_1497 : decode cL_law 1497 = .ok (.iadd, 1) := by decide +kernel
theorem dL_law_1498 : decode cL_law 1498 = .ok (.iaload, 1) := by decide +kernel
theorem dL_law_1499 : decode cL_law 1499 = .ok (.invokevirtual 218, 3) := by decide +kernel
theorem dL_law_1502 : decode cL_law 1502 = .ok (.istore 7, 2) := by decide +kernel
theorem dL_law_1504 : decode cL_law 1504 = .ok (.aload_n 2, 1) := by decide +kernel
theorem dL_law_1505 : decode cL_law 1505 = .ok (.invokevirtual 126, 3) := by decide +kernel
theorem dL_law_1508 : decode cL_law 1508 = .ok (.iload 6, 2) := by decide +kernel
theorem dL_law_1510 : decode cL_law 1510 = .ok (.if_icmp .eq 5, 3) := by decide +kernel
theorem dL_law_1513 : decode cL_law 1513 = .ok (.iconst 0, 1) := by decide +kernel
theorem dL_law_1514 : decode cL_law 1514 = .ok (.ireturn, 1) := by decide +kernel
theorem dL_law_1515 : decode cL_law 1515 = .ok (.iload 6, 2) := by decide +kernel
theorem dL_law_1517 : decode cL_law 1517 = .ok (.ifCond .ne 15, 3) := by decide +kernel
theorem dL_law_1520 : decode cL_law 1520 = .ok (.aload_n 3, 1) := by decide +kernel
theorem dL_law_1521 : decode cL_law 1521 = .ok (.iconst 0, 1) := by decide +kernel
theorem dL_law_1522 : decode cL_law 1522 = .ok (.laload, 1) := by decide +kernel
theorem dL_law_1523 : decode cL_law 1523 = .ok (.iload 7, 2) := by decide +kernel
theorem dL_law_1525 : decode cL_law 1525 = .ok (.i2l, 1) := by decide +kernel
theorem dL_law_1526 : decode cL_law 1526 = .ok (.lcmp, 1) := by decide +kernel
theorem dL_law_1527 : decode cL_law 1527 = .ok (.ifCond .eq 5, 3) := by decide +kernel
theorem dL_law_1530 : decode cL_law 1530 = .ok (.iconst 0, 1) := by decide +kernel
theorem dL_law_1531 : decode cL_law 1531 = .ok (.ireturn, 1) := by decide +kernel
theorem dL_law_1532 : decode cL_law 1532 = .ok (.goto 727, 3) := by decide +kernel
theorem dL_law_1535 : decode cL_law 1535 = .ok (.aload_n 1, 1) := by decide +kernel
theorem dL_law_1536 : decode cL_law 1536 = .ok (.aload_n 0, 1) := by decide +kernel
theorem dL_law_1537 : decode cL_law 1537 = .ok (.iload 5, 2) := by decide +kernel
theorem dL_law_1539 : decode cL_law 1539 = .ok (.iconst 1, 1) := by decide +kernel
theorem dL_law_1540 : decode cL_law 1540 = .ok (.iadd, 1) := by decide +kernel
theorem dL_law_1541 : decode cL_law 1541 = .ok (.iaload, 1) := by decide +kernel
theorem dL_law_1542 : decode cL_law 1542 = .ok (.aload 4, 2) := by decide +kernel
theorem dL_law_1544 : decode cL_law 1544 = .ok (.invokestatic 219, 3) := by decide +kernel
theorem dL_law_1547 : decode cL_law 1547 = .ok (.istore 6, 2) := by decide +kernel
theorem dL_law_1549 : decode cL_law 1549 = .ok (.aload_n 2, 1) := by decide +kernel
theorem dL_law_1550 : decode cL_law 1550 = .ok (.aload_n 0, 1) := by decide +kernel
theorem dL_law_1551 : decode cL_law 1551 = .ok (.iload 5, 2) := by decide +kernel
theorem dL_law_1553 : decode cL_law 1553 = .ok (.iconst 1, 1) := by decide +kernel
theorem dL_law_1554 : decode cL_law 1554 = .ok (.iadd, 1) := by decide +kernel
theorem dL_law_1555 : decode cL_law 1555 = .ok (.iaload, 1) := by decide +kernel
theorem dL_law_1556 : decode cL_law 1556 = .ok (.invokevirtual 222, 3) := by decide +kernel
theorem dL_law_1559 : decode cL_law 1559 = .ok (.dstore 7, 2) := by decide +kernel
theorem dL_law_1561 : decode cL_law 1561 = .ok (.aload_n 2, 1) := by decide +kernel
theorem dL_law_1562 : decode cL_law 1562 = .ok (.invokevirtual 126, 3) := by decide +kernel
theorem dL_law_1565 : decode cL_law 1565 = .ok (.iload 6, 2) := by decide +kernel
theorem dL_law_1567 : decode cL_law 1567 = .ok (.if_icmp .eq 5, 3) := by decide +kernel
theorem dL_law_1570 : decode cL_law 1570 = .ok (.iconst 0, 1) := by decide +kernel
theorem dL_law_1571 : decode cL_law 1571 = .ok (.ireturn, 1) := by decide +kernel
theorem dL_law_1572 : decode cL_law 1572 = .ok (.iload 6, 2) := by decide +kernel
theorem dL_law_1574 : decode cL_law 1574 = .ok (.ifCond .ne 35, 3) := by decide +kernel
theorem dL_law_1577 : decode cL_law 1577 = .ok (.aload 4, 2) := by decide +kernel
theorem dL_law_1579 : decode cL_law 1579 = .ok (.iconst 0, 1) := by decide +kernel
theorem dL_law_1580 : decode cL_law 1580 = .ok (.daload, 1) := by decide +kernel
theorem dL_law_1581 : decode cL_law 1581 = .ok (.dload 7, 2) := by decide +kernel
theorem dL_law_1583 : decode cL_law 1583 = .ok (.dcmp .l, 1) := by decide +kernel
theorem dL_law_1584 : decode cL_law 1584 = .ok (.ifCond .eq 25, 3) := by decide +kernel
theorem dL_law_1587 : decode cL_law 1587 = .ok (.aload 4, 2) := by decide +kernel
theorem dL_law_1589 : decode cL_law 1589 = .ok (.iconst 0, 1) := by decide +kernel
theorem dL_law_1590 : decode cL_law 1590 = .ok (.daload, 1) := by decide +kernel
theorem dL_law_1591 : decode cL_law 1591 = .ok (.aload 4, 2) := by decide +kernel
theorem dL_law_1593 : decode cL_law 1593 = .ok (.iconst 0, 1) := by decide +kernel
theorem dL_law_1594 : decode cL_law 1594 = .ok (.daload, 1) := by decide +kernel
theorem dL_law_1595 : decode cL_law 1595 = .ok (.dcmp .l, 1) := by decide +kernel
theorem dL_law_1596 : decode cL_law 1596 = .ok (.ifCond .eq 11, 3) := by decide +kernel
theorem dL_law_1599 : decode cL_law 1599 = .ok (.dload 7, 2) := by decide +kernel
theorem dL_law_1601 : decode cL_law 1601 = .ok (.dload 7, 2) := by decide +kernel
theorem dL_law_1603 : decode cL_law 1603 = .ok (.dcmp .l, 1) := by decide +kernel
theorem dL_law_1604 : decode cL_law 1604 = .ok (.ifCond .ne 5, 3) := by decide +kernel
theorem dL_law_1607 : decode cL_law 1607 = .ok (.iconst 0, 1) := by decide +kernel
theorem dL_law_1608 : decode cL_law 1608 = .ok (.ireturn, 1) := by decide +kernel
theorem dL_law_1609 : decode cL_law 1609 = .ok (.goto 650, 3) := by decide +kernel
theorem dL_law_1612 : decode cL_law 1612 = .ok (.aload_n 1, 1) := by decide +kernel
theorem dL_law_1613 : decode cL_law 1613 = .ok (.invokevirtual 223, 3) := by decide +kernel
theorem dL_law_1616 : decode cL_law 1616 = .ok (.aload_n 2, 1) := by decide +kernel
theorem dL_law_1617 : decode cL_law 1617 = .ok (.invokevirtual 226, 3) := by decide +kernel
theorem dL_law_1620 : decode cL_law 1620 = .ok (.lcmp, 1) := by decide +kernel
theorem dL_law_1621 : decode cL_law 1621 = .ok (.ifCond .eq 638, 3) := by decide +kernel
theorem dL_law_1624 : decode cL_law 1624 = .ok (.iconst 0, 1) := by decide +kernel
theorem dL_law_1625 : decode cL_law 1625 = .ok (.ireturn, 1) := by decide +kernel
theorem dL_law_1626 : decode cL_law 1626 = .ok (.aload_n 1, 1) := by decide +kernel
theorem dL_law_1627 : decode cL_law 1627 = .ok (.invokevirtual 227, 3) := by decide +kernel
theorem dL_law_1630 : decode cL_law 1630 = .ok (.aload_n 2, 1) := by decide +kernel
theorem dL_law_1631 : decode cL_law 1631 = .ok (.invokevirtual 230, 3) := by decide +kernel
theorem dL_law_1634 : decode cL_law 1634 = .ok (.lcmp, 1) := by decide +kernel
theorem dL_law_1635 : decode cL_law 1635 = .ok (.ifCond .eq 624, 3) := by decide +kernel
theorem dL_law_1638 : decode cL_law 1638 = .ok (.iconst 0, 1) := by decide +kernel
theorem dL_law_1639 : decode cL_law 1639 = .ok (.ireturn, 1) := by decide +kernel
theorem dL_law_1640 : decode cL_law 1640 = .ok (.aload_n 1, 1) := by decide +kernel
theorem dL_law_1641 : decode cL_law 1641 = .ok (.aload_n 0, 1) := by decide +kernel
theorem dL_law_1642 : decode cL_law 1642 = .ok (.iload 5, 2) := by decide +kernel
theorem dL_law_1644 : decode cL_law 1644 = .ok (.iconst 1, 1) := by decide +kernel
theorem dL_law_1645 : decode cL_law 1645 = .ok (.iadd, 1) := by decide +kernel
theorem dL_law_1646 : decode cL_law 1646 = .ok (.iaload, 1) := by decide +kernel
theorem dL_law_1647 : decode cL_law 1647 = .ok (.aload_n 3, 1) := by decide +kernel
theorem dL_law_1648 : decode cL_law 1648 = .ok (.invokestatic 231, 3) := by decide +kernel
theorem dL_law_1651 : decode cL_law 1651 = .ok (.istore 6, 2) := by decide +kernel
theorem dL_law_1653 : decode cL_law 1653 = .ok (.aload_n 2, 1) := by decide +kernel
theorem dL_law_1654 : decode cL_law 1654 = .ok (.aload_n 0, 1) := by decide +kernel
theorem dL_law_1655 : decode cL_law 1655 = .ok (.iload 5, 2) := by decide +kernel
theorem dL_law_1657 : decode cL_law 1657 = .ok (.iconst 1, 1) := by decide +kernel
theorem dL_law_1658 : decode cL_law 1658 = .ok (.iadd, 1) := by decide +kernel
theorem dL_law_1659 : decode cL_law 1659 = .ok (.iaload, 1) := by decide +kernel
theorem dL_law_1660 : decode cL_law 1660 = .ok (.invokevirtual 233, 3) := by decide +kernel
theorem dL_law_1663 : decode cL_law 1663 = .ok (.lstore 7, 2) := by decide +kernel
theorem dL_law_1665 : decode cL_law 1665 = .ok (.aload_n 2, 1) := by decide +kernel
theorem dL_law_1666 : decode cL_law 1666 = .ok (.invokevirtual 126, 3) := by decide +kernel
theorem dL_law_1669 : decode cL_law 1669 = .ok (.iload 6, 2) := by decide +kernel
theorem dL_law_1671 : decode cL_law 1671 = .ok (.if_icmp .eq 5, 3) := by decide +kernel
theorem dL_law_1674 : decode cL_law 1674 = .ok (.iconst 0, 1) := by decide +kernel
theorem dL_law_1675 : decode cL_law 1675 = .ok (.ireturn, 1) := by decide +kernel
theorem dL_law_1676 : decode cL_law 1676 = .ok (.iload 6, 2) := by decide +kernel
theorem dL_law_1678 : decode cL_law 1678 = .ok (.ifCond .ne 14, 3) := by decide +kernel
theorem dL_law_1681 : decode cL_law 1681 = .ok (.aload_n 3, 1) := by decide +kernel
theorem dL_law_1682 : decode cL_law 1682 = .ok (.iconst 0, 1) := by decide +kernel
theorem dL_law_1683 : decode cL_law 1683 = .ok (.laload, 1) := by decide +kernel
theorem dL_law_1684 : decode cL_law 1684 = .ok (.lload 7, 2) := by decide +kernel
theorem dL_law_1686 : decode cL_law 1686 = .ok (.lcmp, 1) := by decide +kernel
theorem dL_law_1687 : decode cL_law 1687 = .ok (.ifCond .eq 5, 3) := by decide +kernel
theorem dL_law_1690 : decode cL_law 1690 = .ok (.iconst 0, 1) := by decide +kernel
theorem dL_law_1691 : decode cL_law 1691 = .ok (.ireturn, 1) := by decide +kernel
theorem dL_law_1692 : decode cL_law 1692 = .ok (.goto 567, 3) := by decide +kernel
theorem dL_law_1695 : decode cL_law 1695 = .ok (.aload_n 1, 1) := by decide +kernel
theorem dL_law_1696 : decode cL_law 1696 = .ok (.aload_n 0, 1) := by decide +kernel
theorem dL_law_1697 : decode cL_law 1697 = .ok (.iload 5, 2) := by decide +kernel
theorem dL_law_1699 : decode cL_law 1699 = .ok (.iconst 1, 1) := by decide +kernel
theorem dL_law_1700 : decode cL_law 1700 = .ok (.iadd, 1) := by decide +kernel
theorem dL_law_1701 : decode cL_law 1701 = .ok (.iaload, 1) := by decide +kernel
theorem dL_law_1702 : decode cL_law 1702 = .ok (.aload_n 3, 1) := by decide +kernel
theorem dL_law_1703 : decode cL_law 1703 = .ok (.invokestatic 234, 3) := by decide +kernel
theorem dL_law_1706 : decode cL_law 1706 = .ok (.istore 6, 2) := by decide +kernel
theorem dL_law_1708 : decode cL_law 1708 = .ok (.aload_n 2, 1) := by decide +kernel
theorem dL_law_1709 : decode cL_law 1709 = .ok (.aload_n 0, 1) := by decide +kernel
theorem dL_law_1710 : decode cL_law 1710 = .ok (.iload 5, 2) := by decide +kernel
theorem dL_law_1712 : decode cL_law 1712 = .ok (.iconst 1, 1) := by decide +kernel
theorem dL_law_1713 : decode cL_law 1713 = .ok (.iadd, 1) := by decide +kernel
theorem dL_law_1714 : decode cL_law 1714 = .ok (.iaload, 1) := by decide +kernel
theorem dL_law_1715 : decode cL_law 1715 = .ok (.invokevirtual 236, 3) := by decide +kernel
theorem dL_law_1718 : decode cL_law 1718 = .ok (.istore 7, 2) := by decide +kernel
theorem dL_law_1720 : decode cL_law 1720 = .ok (.aload_n 2, 1) := by decide +kernel
theorem dL_law_1721 : decode cL_law 1721 = .ok (.invokevirtual 126, 3) := by decide +kernel
theorem dL_law_1724 : decode cL_law 1724 = .ok (.iload 6, 2) := by decide +kernel
theorem dL_law_1726 : decode cL_law 1726 = .ok (.if_icmp .eq 5, 3) := by decide +kernel
theorem dL_law_1729 : decode cL_law 1729 = .ok (.iconst 0, 1) := by decide +kernel
theorem dL_law_1730 : decode cL_law 1730 = .ok (.ireturn, 1) := by decide +kernel
theorem dL_law_1731 : decode cL_law 1731 = .ok (.iload 6, 2) := by decide +kernel
theorem dL_law_1733 : decode cL_law 1733 = .ok (.ifCond .ne 15, 3) := by decide +kernel
theorem dL_law_1736 : decode cL_law 1736 = .ok (.aload_n 3, 1) := by decide +kernel
theorem dL_law_1737 : decode cL_law 1737 = .ok (.iconst 0, 1) := by decide +kernel
theorem dL_law_1738 : decode cL_law 1738 = .ok (.laload, 1) := by decide +kernel
theorem dL_law_1739 : decode cL_law 1739 = .ok (.iload 7, 2) := by decide +kernel
theorem dL_law_1741 : decode cL_law 1741 = .ok (.i2l, 1) := by decide +kernel
theorem dL_law_1742 : decode cL_law 1742 = .ok (.lcmp, 1) := by decide +kernel
theorem dL_law_1743 : decode cL_law 1743 = .ok (.ifCond .eq 5, 3) := by decide +kernel
theorem dL_law_1746 : decode cL_law 1746 = .ok (.iconst 0, 1) := by decide +kernel
theorem dL_law_1747 : decode cL_law 1747 = .ok (.ireturn, 1) := by decide +kernel
theorem dL_law_1748 : decode cL_law 1748 = .ok (.goto 511, 3) := by decide +kernel
theorem dL_law_1751 : decode cL_law 1751 = .ok (.aload_n 1, 1) := by decide +kernel
theorem dL_law_1752 : decode cL_law 1752 = .ok (.aload_n 0, 1) := by decide +kernel
theorem dL_law_1753 : decode cL_law 1753 = .ok (.iload 5, 2) := by decide +kernel
theorem dL_law_1755 : decode cL_law 1755 = .ok (.iconst 1, 1) := by decide +kernel
theorem dL_law_1756 : decode cL_law 1756 = .ok (.iadd, 1) := by decide +kernel
theorem dL_law_1757 : decode cL_law 1757 = .ok (.iaload, 1) := by decide +kernel
theorem dL_law_1758 : decode cL_law 1758 = .ok (.aload_n 3, 1) := by decide +kernel
theorem dL_law_1759 : decode cL_law 1759 = .ok (.invokestatic 237, 3) := by decide +kernel
theorem dL_law_1762 : decode cL_law 1762 = .ok (.istore 6, 2) := by decide +kernel
theorem dL_law_1764 : decode cL_law 1764 = .ok (.aload_n 2, 1) := by decide +kernel
theorem dL_law_1765 : decode cL_law 1765 = .ok (.aload_n 0, 1) := by decide +kernel
theorem dL_law_1766 : decode cL_law 1766 = .ok (.iload 5, 2) := by decide +kernel
theorem dL_law_1768 : decode cL_law 1768 = .ok (.iconst 1, 1) := by decide +kernel
theorem dL_law_1769 : decode cL_law 1769 = .ok (.iadd, 1) := by decide +kernel
theorem dL_law_1770 : decode cL_law 1770 = .ok (.iaload, 1) := by decide +kernel
theorem dL_law_1771 : decode cL_law 1771 = .ok (.invokevirtual 239, 3) := by decide +kernel
theorem dL_law_1774 : decode cL_law 1774 = .ok (.lstore 7, 2) := by decide +kernel
theorem dL_law_1776 : decode cL_law 1776 = .ok (.aload_n 2, 1) := by decide +kernel
theorem dL_law_1777 : decode cL_law 1777 = .ok (.invokevirtual 126, 3) := by decide +kernel
theorem dL_law_1780 : decode cL_law 1780 = .ok (.iload 6, 2) := by decide +kernel
theorem dL_law_1782 : decode cL_law 1782 = .ok (.if_icmp .eq 5, 3) := by decide +kernel
theorem dL_law_1785 : decode cL_law 1785 = .ok (.iconst 0, 1) := by decide +kernel
theorem dL_law_1786 : decode cL_law 1786 = .ok (.ireturn, 1) := by decide +kernel
theorem dL_law_1787 : decode cL_law 1787 = .ok (.iload 6, 2) := by decide +kernel
theorem dL_law_1789 : decode cL_law 1789 = .ok (.ifCond .ne 14, 3) := by decide +kernel
theorem dL_law_1792 : decode cL_law 1792 = .ok (.aload_n 3, 1) := by decide +kernel
theorem dL_law_1793 : decode cL_law 1793 = .ok (.iconst 0, 1) := by decide +kernel
theorem dL_law_1794 : decode cL_law 1794 = .ok (.laload, 1) := by decide +kernel
theorem dL_law_1795 : decode cL_law 1795 = .ok (.lload 7, 2) := by decide +kernel
theorem dL_law_1797 : decode cL_law 1797 = .ok (.lcmp, 1) := by decide +kernel
theorem dL_law_1798 : decode cL_law 1798 = .ok (.ifCond .eq 5, 3) := by decide +kernel
theorem dL_law_1801 : decode cL_law 1801 = .ok (.iconst 0, 1) := by decide +kernel
theorem dL_law_1802 : decode cL_law 1802 = .ok (.ireturn, 1) := by decide +kernel
theorem dL_law_1803 : decode cL_law 1803 = .ok (.goto 456, 3) := by decide +kernel
theorem dL_law_1806 : decode cL_law 1806 = .ok (.aload_n 1, 1) := by decide +kernel
theorem dL_law_1807 : decode cL_law 1807 = .ok (.aload_n 0, 1) := by decide +kernel
theorem dL_law_1808 : decode cL_law 1808 = .ok (.iload 5, 2) := by decide +kernel
theorem dL_law_1810 : decode cL_law 1810 = .ok (.iconst 1, 1) := by decide +kernel
theorem dL_law_1811 : decode cL_law 1811 = .ok (.iadd, 1) := by decide +kernel
theorem dL_law_1812 : decode cL_law 1812 = .ok (.iaload, 1) := by decide +kernel
theorem dL_law_1813 : decode cL_law 1813 = .ok (.aload_n 3, 1) := by decide +kernel
theorem dL_law_1814 : decode cL_law 1814 = .ok (.invokestatic 240, 3) := by decide +kernel
theorem dL_law_1817 : decode cL_law 1817 = .ok (.istore 6, 2) := by decide +kernel
theorem dL_law_1819 : decode cL_law 1819 = .ok (.aload_n 2, 1) := by decide +kernel
theorem dL_law_1820 : decode cL_law 1820 = .ok (.aload_n 0, 1) := by decide +kernel
theorem dL_law_1821 : decode cL_law 1821 = .ok (.iload 5, 2) := by decide +kernel
theorem dL_law_1823 : decode cL_law 1823 = .ok (.iconst 1, 1) := by decide +kernel
theorem dL_law_1824 : decode cL_law 1824 = .ok (.iadd, 1) := by decide +kernel
theorem dL_law_1825 : decode cL_law 1825 = .ok (.iaload, 1) := by decide +kernel
theorem dL_law_1826 : decode cL_law 1826 = .ok (.invokevirtual 242, 3) := by decide +kernel
theorem dL_law_1829 : decode cL_law 1829 = .ok (.istore 7, 2) := by decide +kernel
theorem dL_law_1831 : decode cL_law 1831 = .ok (.aload_n 2, 1) := by decide +kernel
theorem dL_law_1832 : decode cL_law 1832 = .ok (.invokevirtual 126, 3) := by decide +kernel
theorem dL_law_1835 : decode cL_law 1835 = .ok (.iload 6, 2) := by decide +kernel
theorem dL_law_1837 : decode cL_law 1837 = .ok (.if_icmp .eq 5, 3) := by decide +kernel
theorem dL_law_1840 : decode cL_law 1840 = .ok (.iconst 0, 1) := by decide +kernel
theorem dL_law_1841 : decode cL_law 1841 = .ok (.ireturn, 1) := by decide +kernel
theorem dL_law_1842 : decode cL_law 1842 = .ok (.iload 6, 2) := by decide +kernel
theorem dL_law_1844 : decode cL_law 1844 = .ok (.ifCond .ne 15, 3) := by decide +kernel
theorem dL_law_1847 : decode cL_law 1847 = .ok (.aload_n 3, 1) := by decide +kernel
theorem dL_law_1848 : decode cL_law 1848 = .ok (.iconst 0, 1) := by decide +kernel
theorem dL_law_1849 : decode cL_law 1849 = .ok (.laload, 1) := by decide +kernel
theorem dL_law_1850 : decode cL_law 1850 = .ok (.iload 7, 2) := by decide +kernel
theorem dL_law_1852 : decode cL_law 1852 = .ok (.i2l, 1) := by decide +kernel
theorem dL_law_1853 : decode cL_law 1853 = .ok (.lcmp, 1) := by decide +kernel
theorem dL_law_1854 : decode cL_law 1854 = .ok (.ifCond .eq 5, 3) := by decide +kernel
theorem dL_law_1857 : decode cL_law 1857 = .ok (.iconst 0, 1) := by decide +kernel
theorem dL_law_1858 : decode cL_law 1858 = .ok (.ireturn, 1) := by decide +kernel
theorem dL_law_1859 : decode cL_law 1859 = .ok (.goto 400, 3) := by decide +kernel
theorem dL_law_1862 : decode cL_law 1862 = .ok (.aload_n 1, 1) := by decide +kernel
theorem dL_law_1863 : decode cL_law 1863 = .ok (.aload_n 0, 1) := by decide +kernel
theorem dL_law_1864 : decode cL_law 1864 = .ok (.iload 5, 2) := by decide +kernel
theorem dL_law_1866 : decode cL_law 1866 = .ok (.iconst 1, 1) := by decide +kernel
theorem dL_law_1867 : decode cL_law 1867 = .ok (.iadd, 1) := by decide +kernel
theorem dL_law_1868 : decode cL_law 1868 = .ok (.iaload, 1) := by decide +kernel
theorem dL_law_1869 : decode cL_law 1869 = .ok (.aload_n 0, 1) := by decide +kernel
theorem dL_law_1870 : decode cL_law 1870 = .ok (.iload 5, 2) := by decide +kernel
theorem dL_law_1872 : decode cL_law 1872 = .ok (.iconst 2, 1) := by decide +kernel
theorem dL_law_1873 : decode cL_law 1873 = .ok (.iadd, 1) := by decide +kernel
theorem dL_law_1874 : decode cL_law 1874 = .ok (.iaload, 1) := by decide +kernel
theorem dL_law_1875 : decode cL_law 1875 = .ok (.i2l, 1) := by decide +kernel
theorem dL_law_1876 : decode cL_law 1876 = .ok (.bipush 32, 2) := by decide +kernel
theorem dL_law_1878 : decode cL_law 1878 = .ok (.lshl, 1) := by decide +kernel
theorem dL_law_1879 : decode cL_law 1879 = .ok (.aload_n 0, 1) := by decide +kernel
theorem dL_law_1880 : decode cL_law 1880 = .ok (.iload 5, 2) := by decide +kernel
theorem dL_law_1882 : decode cL_law 1882 = .ok (.iconst 3, 1) := by decide +kernel
theorem dL_law_1883 : decode cL_law 1883 = .ok (.iadd, 1) := by decide +kernel
theorem dL_law_1884 : decode cL_law 1884 = .ok (.iaload, 1) := by decide +kernel
theorem dL_law_1885 : decode cL_law 1885 = .ok (.i2l, 1) := by decide +kernel
theorem dL_law_1886 : decode cL_law 1886 = .ok (.ldc2_w 243, 3) := by decide +kernel
theorem dL_law_1889 : decode cL_law 1889 = .ok (.land, 1) := by decide +kernel
theorem dL_law_1890 : decode cL_law 1890 = .ok (.lor, 1) := by decide +kernel
theorem dL_law_1891 : decode cL_law 1891 = .ok (.aload_n 3, 1) := by decide +kernel
theorem dL_law_1892 : decode cL_law 1892 = .ok (.invokestatic 245, 3) := by decide +kernel
theorem dL_law_1895 : decode cL_law 1895 = .ok (.istore 6, 2) := by decide +kernel
theorem dL_law_1897 : decode cL_law 1897 = .ok (.aload_n 2, 1) := by decide +kernel
theorem dL_law_1898 : decode cL_law 1898 = .ok (.aload_n 0, 1) := by decide +kernel
theorem dL_law_1899 : decode cL_law 1899 = .ok (.iload 5, 2) := by decide +kernel
theorem dL_law_1901 : decode cL_law 1901 = .ok (.iconst 1, 1) := by decide +kernel
theorem dL_law_1902 : decode cL_law 1902 = .ok (.iadd, 1) := by decide +kernel
theorem dL_law_1903 : decode cL_law 1903 = .ok (.iaload, 1) := by decide +kernel
theorem dL_law_1904 : decode cL_law 1904 = .ok (.aload_n 0, 1) := by decide +kernel
theorem dL_law_1905 : decode cL_law 1905 = .ok (.iload 5, 2) := by decide +kernel
theorem dL_law_1907 : decode cL_law 1907 = .ok (.iconst 2, 1) := by decide +kernel
theorem dL_law_1908 : decode cL_law 1908 = .ok (.iadd, 1) := by decide +kernel
theorem dL_law_1909 : decode cL_law 1909 = .ok (.iaload, 1) := by decide +kernel
theorem dL_law_1910 : decode cL_law 1910 = .ok (.i2l, 1) := by decide +kernel
theorem dL_law_1911 : decode cL_law 1911 = .ok (.bipush 32, 2) := by decide +kernel
theorem dL_law_1913 : decode cL_law 1913 = .ok (.lshl, 1) := by decide +kernel
theorem dL_law_1914 : decode cL_law 1914 = .ok (.aload_n 0, 1) := by decide +kernel
theorem dL_law_1915 : decode cL_law 1915 = .ok (.iload 5, 2) := by decide +kernel
theorem dL_law_1917 : decode cL_law 1917 = .ok (.iconst 3, 1) := by decide +kernel
theorem dL_law_1918 : decode cL_law 1918 = .ok (.iadd, 1) := by decide +kernel
theorem dL_law_1919 : decode cL_law 1919 = .ok (.iaload, 1) := by decide +kernel
theorem dL_law_1920 : decode cL_law 1920 = .ok (.i2l, 1) := by decide +kernel
theorem dL_law_1921 : decode cL_law 1921 = .ok (.ldc2_w 243, 3) := by decide +kernel
theorem dL_law_1924 : decode cL_law 1924 = .ok (.land, 1) := by decide +kernel
theorem dL_law_1925 : decode cL_law 1925 = .ok (.lor, 1) := by decide +kernel
theorem dL_law_1926 : decode cL_law 1926 = .ok (.invokevirtual 248, 3) := by decide +kernel
theorem dL_law_1929 : decode cL_law 1929 = .ok (.istore 7, 2) := by decide +kernel
theorem dL_law_1931 : decode cL_law 1931 = .ok (.aload_n 2, 1) := by decide +kernel
theorem dL_law_1932 : decode cL_law 1932 = .ok (.invokevirtual 126, 3) := by decide +kernel
theorem dL_law_1935 : decode cL_law 1935 = .ok (.iload 6, 2) := by decide +kernel
theorem dL_law_1937 : decode cL_law 1937 = .ok (.if_icmp .eq 5, 3) := by decide +kernel
theorem dL_law_1940 : decode cL_law 1940 = .ok (.iconst 0, 1) := by decide +kernel
theorem dL_law_1941 : decode cL_law 1941 = .ok (.ireturn, 1) := by decide +kernel
theorem dL_law_1942 : decode cL_law 1942 = .ok (.iload 6, 2) := by decide +kernel
theorem dL_law_1944 : decode cL_law 1944 = .ok (.ifCond .ne 15, 3) := by decide +kernel
theorem dL_law_1947 : decode cL_law 1947 = .ok (.aload_n 3, 1) := by decide +kernel
theorem dL_law_1948 : decode cL_law 1948 = .ok (.iconst 0, 1) := by decide +kernel
theorem dL_law_1949 : decode cL_law 1949 = .ok (.laload, 1) := by decide +kernel
theorem dL_law_1950 : decode cL_law 1950 = .ok (.iload 7, 2) := by decide +kernel
theorem dL_law_1952 : decode cL_law 1952 = .ok (.i2l, 1) := by decide +kernel
theorem dL_law_1953 : decode cL_law 1953 = .ok (.lcmp, 1) := by decide +kernel
theorem dL_law_1954 : decode cL_law 1954 = .ok (.ifCond .eq 5, 3) := by decide +kernel
theorem dL_law_1957 : decode cL_law 1957 = .ok (.iconst 0, 1) := by decide +kernel
theorem dL_law_1958 : decode cL_law 1958 = .ok (.ireturn, 1) := by decide +kernel
theorem dL_law_1959 : decode cL_law 1959 = .ok (.goto 300, 3) := by decide +kernel
theorem dL_law_1962 : decode cL_law 1962 = .ok (.aload_n 1, 1) := by decide +kernel
theorem dL_law_1963 : decode cL_law 1963 = .ok (.aload_n 0, 1) := by decide +kernel
theorem dL_law_1964 : decode cL_law 1964 = .ok (.iload 5, 2) := by decide +kernel
theorem dL_law_1966 : decode cL_law 1966 = .ok (.iconst 1, 1) := by decide +kernel
theorem dL_law_1967 : decode cL_law 1967 = .ok (.iadd, 1) := by decide +kernel
theorem dL_law_1968 : decode cL_law 1968 = .ok (.iaload, 1) := by decide +kernel
theorem dL_law_1969 : decode cL_law 1969 = .ok (.i2l, 1) := by decide +kernel
theorem dL_law_1970 : decode cL_law 1970 = .ok (.bipush 32, 2) := by decide +kernel
theorem dL_law_1972 : decode cL_law 1972 = .ok (.lshl, 1) := by decide +kernel
theorem dL_law_1973 : decode cL_law 1973 = .ok (.aload_n 0, 1) := by decide +kernel
theorem dL_law_1974 : decode cL_law 1974 = .ok (.iload 5, 2) := by decide +kernel
theorem dL_law_1976 : decode cL_law 1976 = .ok (.iconst 2, 1) := by decide +kernel
theorem dL_law_1977 : decode cL_law 1977 = .ok (.iadd, 1) := by decide +kernel
theorem dL_law_1978 : decode cL_law 1978 = .ok (.iaload, 1) := by decide +kernel
theorem dL_law_1979 : decode cL_law 1979 = .ok (.i2l, 1) := by decide +kernel
theorem dL_law_1980 : decode cL_law 1980 = .ok (.ldc2_w 243, 3) := by decide +kernel
theorem dL_law_1983 : decode cL_law 1983 = .ok (.land, 1) := by decide +kernel
theorem dL_law_1984 : decode cL_law 1984 = .ok (.lor, 1) := by decide +kernel
theorem dL_law_1985 : decode cL_law 1985 = .ok (.aload_n 3, 1) := by decide +kernel
theorem dL_law_1986 : decode cL_law 1986 = .ok (.invokestatic 249, 3) := by decide +kernel
theorem dL_law_1989 : decode cL_law 1989 = .ok (.istore 6, 2) := by decide +kernel
theorem dL_law_1991 : decode cL_law 1991 = .ok (.aload_n 2, 1) := by decide +kernel
theorem dL_law_1992 : decode cL_law 1992 = .ok (.aload_n 0, 1) := by decide +kernel
theorem dL_law_1993 : decode cL_law 1993 = .ok (.iload 5, 2) := by decide +kernel
theorem dL_law_1995 : decode cL_law 1995 = .ok (.iconst 1, 1) := by decide +kernel
theorem dL_law_1996 : decode cL_law 1996 = .ok (.iadd, 1) := by decide +kernel
theorem dL_law_1997 : decode cL_law 1997 = .ok (.iaload, 1) := by decide +kernel
theorem dL_law_1998 : decode cL_law 1998 = .ok (.i2l, 1) := by decide +kernel
theorem dL_law_1999 : decode cL_law 1999 = .ok (.bipush 32, 2) := by decide +kernel
theorem dL_law_2001 : decode cL_law 2001 = .ok (.lshl, 1) := by decide +kernel
theorem dL_law_2002 : decode cL_law 2002 = .ok (.aload_n 0, 1) := by decide +kernel
theorem dL_law_2003 : decode cL_law 2003 = .ok (.iload 5, 2) := by decide +kernel
theorem dL_law_2005 : decode cL_law 2005 = .ok (.iconst 2, 1) := by decide +kernel
theorem dL_law_2006 : decode cL_law 2006 = .ok (.iadd, 1) := by decide +kernel
theorem dL_law_2007 : decode cL_law 2007 = .ok (.iaload, 1) := by decide +kernel
theorem dL_law_2008 : decode cL_law 2008 = .ok (.i2l, 1) := by decide +kernel
theorem dL_law_2009 : decode cL_law 2009 = .ok (.ldc2_w 243, 3) := by decide +kernel
theorem dL_law_2012 : decode cL_law 2012 = .ok (.land, 1) := by decide +kernel
theorem dL_law_2013 : decode cL_law 2013 = .ok (.lor, 1) := by decide +kernel
theorem dL_law_2014 : decode cL_law 2014 = .ok (.invokevirtual 252, 3) := by decide +kernel
theorem dL_law_2017 : decode cL_law 2017 = .ok (.istore 7, 2) := by decide +kernel
theorem dL_law_2019 : decode cL_law 2019 = .ok (.aload_n 2, 1) := by decide +kernel
theorem dL_law_2020 : decode cL_law 2020 = .ok (.invokevirtual 126, 3) := by decide +kernel
theorem dL_law_2023 : decode cL_law 2023 = .ok (.iload 6, 2) := by decide +kernel
theorem dL_law_2025 : decode cL_law 2025 = .ok (.if_icmp .eq 5, 3) := by decide +kernel
theorem dL_law_2028 : decode cL_law 2028 = .ok (.iconst 0, 1) := by decide +kernel
theorem dL_law_2029 : decode cL_law 2029 = .ok (.ireturn, 1) := by decide +kernel
theorem dL_law_2030 : decode cL_law 2030 = .ok (.iload 6, 2) := by decide +kernel
theorem dL_law_2032 : decode cL_law 2032 = .ok (.ifCond .ne 15, 3) := by decide +kernel
theorem dL_law_2035 : decode cL_law 2035 = .ok (.aload_n 3, 1) := by decide +kernel
theorem dL_law_2036 : decode cL_law 2036 = .ok (.iconst 0, 1) := by decide +kernel
theorem dL_law_2037 : decode cL_law 2037 = .ok (.laload, 1) := by decide +kernel
theorem dL_law_2038 : decode cL_law 2038 = .ok (.iload 7, 2) := by decide +kernel
theorem dL_law_2040 : decode cL_law 2040 = .ok (.i2l, 1) := by decide +kernel
theorem dL_law_2041 : decode cL_law 2041 = .ok (.lcmp, 1) := by decide +kernel
theorem dL_law_2042 : decode cL_law 2042 = .ok (.ifCond .eq 5, 3) := by decide +kernel
theorem dL_law_2045 : decode cL_law 2045 = .ok (.iconst 0, 1) := by decide +kernel
theorem dL_law_2046 : decode cL_law 2046 = .ok (.ireturn, 1) := by decide +kernel
theorem dL_law_2047 : decode cL_law 2047 = .ok (.goto 212, 3) := by decide +kernel
theorem dL_law_2050 : decode cL_law 2050 = .ok (.aload_n 1, 1) := by decide +kernel
theorem dL_law_2051 : decode cL_law 2051 = .ok (.invokevirtual 253, 3) := by decide +kernel
theorem dL_law_2054 : decode cL_law 2054 = .ok (.aload_n 2, 1) := by decide +kernel
theorem dL_law_2055 : decode cL_law 2055 = .ok (.invokevirtual 256, 3) := by decide +kernel
theorem dL_law_2058 : decode cL_law 2058 = .ok (.lcmp, 1) := by decide +kernel
theorem dL_law_2059 : decode cL_law 2059 = .ok (.ifCond .eq 200, 3) := by decide +kernel
theorem dL_law_2062 : decode cL_law 2062 = .ok (.iconst 0, 1) := by decide +kernel
theorem dL_law_2063 : decode cL_law 2063 = .ok (.ireturn, 1) := by decide +kernel
theorem dL_law_2064 : decode cL_law 2064 = .ok (.aload_n 1, 1) := by decide +kernel
theorem dL_law_2065 : decode cL_law 2065 = .ok (.invokevirtual 257, 3) := by decide +kernel
theorem dL_law_2068 : decode cL_law 2068 = .ok (.aload_n 2, 1) := by decide +kernel
theorem dL_law_2069 : decode cL_law 2069 = .ok (.invokevirtual 260, 3) := by decide +kernel
theorem dL_law_2072 : decode cL_law 2072 = .ok (.if_icmp .eq 187, 3) := by decide +kernel
theorem dL_law_2075 : decode cL_law 2075 = .ok (.iconst 0, 1) := by decide +kernel
theorem dL_law_2076 : decode cL_law 2076 = .ok (.ireturn, 1) := by decide +kernel
theorem dL_law_2077 : decode cL_law 2077 = .ok (.aload_n 1, 1) := by decide +kernel
theorem dL_law_2078 : decode cL_law 2078 = .ok (.aload_n 0, 1) := by decide +kernel
theorem dL_law_2079 : decode cL_law 2079 = .ok (.iload 5, 2) := by decide +kernel
theorem dL_law_2081 : decode cL_law 2081 = .ok (.iconst 1, 1) := by decide +kernel
theorem dL_law_2082 : decode cL_law 2082 = .ok (.iadd, 1) := by decide +kernel
theorem dL_law_2083 : decode cL_law 2083 = .ok (.iaload, 1) := by decide +kernel
theorem dL_law_2084 : decode cL_law 2084 = .ok (.aload_n 3, 1) := by decide +kernel
theorem dL_law_2085 : decode cL_law 2085 = .ok (.invokestatic 261, 3) := by decide +kernel
theorem dL_law_2088 : decode cL_law 2088 = .ok (.istore 6, 2) := by decide +kernel
theorem dL_law_2090 : decode cL_law 2090 = .ok (.aload_n 2, 1) := by decide +kernel
theorem dL_law_2091 : decode cL_law 2091 = .ok (.aload_n 0, 1) := by decide +kernel
theorem dL_law_2092 : decode cL_law 2092 = .ok (.iload 5, 2) := by decide +kernel
theorem dL_law_2094 : decode cL_law 2094 = .ok (.iconst 1, 1) := by decide +kernel
theorem dL_law_2095 : decode cL_law 2095 = .ok (.iadd, 1) := by decide +kernel
theorem dL_law_2096 : decode cL_law 2096 = .ok (.iaload, 1) := by decide +kernel
theorem dL_law_2097 : decode cL_law 2097 = .ok (.invokevirtual 263, 3) := by decide +kernel
theorem dL_law_2100 : decode cL_law 2100 = .ok (.istore 7, 2) := by decide +kernel
theorem dL_law_2102 : decode cL_law 2102 = .ok (.aload_n 2, 1) := by decide +kernel
theorem dL_law_2103 : decode cL_law 2103 = .ok (.invokevirtual 126, 3) := by decide +kernel
theorem dL_law_2106 : decode cL_law 2106 = .ok (.iload 6, 2) := by decide +kernel
theorem dL_law_2108 : decode cL_law 2108 = .ok (.if_icmp .eq 5, 3) := by decide +kernel
theorem dL_law_2111 : decode cL_law 2111 = .ok (.iconst 0, 1) := by decide +kernel
theorem dL_law_2112 : decode cL_law 2112 = .ok (.ireturn, 1) := by decide +kernel
theorem dL_law_2113 : decode cL_law 2113 = .ok (.iload 6, 2) := by decide +kernel
theorem dL_law_2115 : decode cL_law 2115 = .ok (.ifCond .ne 15, 3) := by decide +kernel
theorem dL_law_2118 : decode cL_law 2118 = .ok (.aload_n 3, 1) := by decide +kernel
theorem dL_law_2119 : decode cL_law 2119 = .ok (.iconst 0, 1) := by decide +kernel
theorem dL_law_2120 : decode cL_law 2120 = .ok (.laload, 1) := by decide +kernel
theorem dL_law_2121 : decode cL_law 2121 = .ok (.iload 7, 2) := by decide +kernel
theorem dL_law_2123 : decode cL_law 2123 = .ok (.i2l, 1) := by decide +kernel
theorem dL_law_2124 : decode cL_law 2124 = .ok (.lcmp, 1) := by decide +kernel
theorem dL_law_2125 : decode cL_law 2125 = .ok (.ifCond .eq 5, 3) := by decide +kernel
theorem dL_law_2128 : decode cL_law 2128 = .ok (.iconst 0, 1) := by decide +kernel
theorem dL_law_2129 : decode cL_law 2129 = .ok (.ireturn, 1) := by decide +kernel
theorem dL_law_2130 : decode cL_law 2130 = .ok (.goto 129, 3) := by decide +kernel
theorem dL_law_2133 : decode cL_law 2133 = .ok (.aload_n 1, 1) := by decide +kernel
theorem dL_law_2134 : decode cL_law 2134 = .ok (.invokevirtual 264, 3) := by decide +kernel
theorem dL_law_2137 : decode cL_law 2137 = .ok (.aload_n 2, 1) := by decide +kernel
theorem dL_law_2138 : decode cL_law 2138 = .ok (.invokevirtual 267, 3) := by decide +kernel
theorem dL_law_2141 : decode cL_law 2141 = .ok (.if_icmp .eq 118, 3) := by decide +kernel
theorem dL_law_2144 : decode cL_law 2144 = .ok (.iconst 0, 1) := by decide +kernel
theorem dL_law_2145 : decode cL_law 2145 = .ok (.ireturn, 1) := by decide +kernel
theorem dL_law_2146 : decode cL_law 2146 = .ok (.aload_n 1, 1) := by decide +kernel
theorem dL_law_2147 : decode cL_law 2147 = .ok (.aload_n 0, 1) := by decide +kernel
theorem dL_law_2148 : decode cL_law 2148 = .ok (.iload 5, 2) := by decide +kernel
theorem dL_law_2150 : decode cL_law 2150 = .ok (.iconst 1, 1) := by decide +kernel
theorem dL_law_2151 : decode cL_law 2151 = .ok (.iadd, 1) := by decide +kernel
theorem dL_law_2152 : decode cL_law 2152 = .ok (.iaload, 1) := by decide +kernel
theorem dL_law_2153 : decode cL_law 2153 = .ok (.aload_n 3, 1) := by decide +kernel
theorem dL_law_2154 : decode cL_law 2154 = .ok (.invokestatic 268, 3) := by decide +kernel
theorem dL_law_2157 : decode cL_law 2157 = .ok (.istore 6, 2) := by decide +kernel
theorem dL_law_2159 : decode cL_law 2159 = .ok (.aload_n 2, 1) := by decide +kernel
theorem dL_law_2160 : decode cL_law 2160 = .ok (.aload_n 0, 1) := by decide +kernel
theorem dL_law_2161 : decode cL_law 2161 = .ok (.iload 5, 2) := by decide +kernel
theorem dL_law_2163 : decode cL_law 2163 = .ok (.iconst 1, 1) := by decide +kernel
theorem dL_law_2164 : decode cL_law 2164 = .ok (.iadd, 1) := by decide +kernel
theorem dL_law_2165 : decode cL_law 2165 = .ok (.iaload, 1) := by decide +kernel
theorem dL_law_2166 : decode cL_law 2166 = .ok (.invokevirtual 270, 3) := by decide +kernel
theorem dL_law_2169 : decode cL_law 2169 = .ok (.istore 7, 2) := by decide +kernel
theorem dL_law_2171 : decode cL_law 2171 = .ok (.aload_n 2, 1) := by decide +kernel
theorem dL_law_2172 : decode cL_law 2172 = .ok (.invokevirtual 126, 3) := by decide +kernel
theorem dL_law_2175 : decode cL_law 2175 = .ok (.iload 6, 2) := by decide +kernel
theorem dL_law_2177 : decode cL_law 2177 = .ok (.if_icmp .eq 5, 3) := by decide +kernel
theorem dL_law_2180 : decode cL_law 2180 = .ok (.iconst 0, 1) := by decide +kernel
theorem dL_law_2181 : decode cL_law 2181 = .ok (.ireturn, 1) := by decide +kernel
theorem dL_law_2182 : decode cL_law 2182 = .ok (.iload 6, 2) := by decide +kernel
theorem dL_law_2184 : decode cL_law 2184 = .ok (.ifCond .ne 15, 3) := by decide +kernel
theorem dL_law_2187 : decode cL_law 2187 = .ok (.aload_n 3, 1) := by decide +kernel
theorem dL_law_2188 : decode cL_law 2188 = .ok (.iconst 0, 1) := by decide +kernel
theorem dL_law_2189 : decode cL_law 2189 = .ok (.laload, 1) := by decide +kernel
theorem dL_law_2190 : decode cL_law 2190 = .ok (.iload 7, 2) := by decide +kernel
theorem dL_law_2192 : decode cL_law 2192 = .ok (.i2l, 1) := by decide +kernel
theorem dL_law_2193 : decode cL_law 2193 = .ok (.lcmp, 1) := by decide +kernel
theorem dL_law_2194 : decode cL_law 2194 = .ok (.ifCond .eq 5, 3) := by decide +kernel
theorem dL_law_2197 : decode cL_law 2197 = .ok (.iconst 0, 1) := by decide +kernel
theorem dL_law_2198 : decode cL_law 2198 = .ok (.ireturn, 1) := by decide +kernel
theorem dL_law_2199 : decode cL_law 2199 = .ok (.goto 60, 3) := by decide +kernel
theorem dL_law_2202 : decode cL_law 2202 = .ok (.aload_n 1, 1) := by decide +kernel
theorem dL_law_2203 : decode cL_law 2203 = .ok (.aload_n 3, 1) := by decide +kernel
theorem dL_law_2204 : decode cL_law 2204 = .ok (.invokestatic 271, 3) := by decide +kernel
theorem dL_law_2207 : decode cL_law 2207 = .ok (.istore 6, 2) := by decide +kernel
theorem dL_law_2209 : decode cL_law 2209 = .ok (.aload_n 2, 1) := by decide +kernel
theorem dL_law_2210 : decode cL_law 2210 = .ok (.invokevirtual 274, 3) := by decide +kernel
theorem dL_law_2213 : decode cL_law 2213 = .ok (.istore 7, 2) := by decide +kernel
theorem dL_law_2215 : decode cL_law 2215 = .ok (.aload_n 2, 1) := by decide +kernel
theorem dL_law_2216 : decode cL_law 2216 = .ok (.invokevirtual 126, 3) := by decide +kernel
theorem dL_law_2219 : decode cL_law 2219 = .ok (.iload 6, 2) := by decide +kernel
theorem dL_law_2221 : decode cL_law 2221 = .ok (.if_icmp .eq 5, 3) := by decide +kernel
theorem dL_law_2224 : decode cL_law 2224 = .ok (.iconst 0, 1) := by decide +kernel
theorem dL_law_2225 : decode cL_law 2225 = .ok (.ireturn, 1) := by decide +kernel
theorem dL_law_2226 : decode cL_law 2226 = .ok (.iload 6, 2) := by decide +kernel
theorem dL_law_2228 : decode cL_law 2228 = .ok (.ifCond .ne 15, 3) := by decide +kernel
theorem dL_law_2231 : decode cL_law 2231 = .ok (.aload_n 3, 1) := by decide +kernel
theorem dL_law_2232 : decode cL_law 2232 = .ok (.iconst 0, 1) := by decide +kernel
theorem dL_law_2233 : decode cL_law 2233 = .ok (.laload, 1) := by decide +kernel
theorem dL_law_2234 : decode cL_law 2234 = .ok (.iload 7, 2) := by decide +kernel
theorem dL_law_2236 : decode cL_law 2236 = .ok (.i2l, 1) := by decide +kernel
theorem dL_law_2237 : decode cL_law 2237 = .ok (.lcmp, 1) := by decide +kernel
theorem dL_law_2238 : decode cL_law 2238 = .ok (.ifCond .eq 5, 3) := by decide +kernel
theorem dL_law_2241 : decode cL_law 2241 = .ok (.iconst 0, 1) := by decide +kernel
theorem dL_law_2242 : decode cL_law 2242 = .ok (.ireturn, 1) := by decide +kernel
theorem dL_law_2243 : decode cL_law 2243 = .ok (.goto 16, 3) := by decide +kernel
theorem dL_law_2246 : decode cL_law 2246 = .ok (.aload_n 1, 1) := by decide +kernel
theorem dL_law_2247 : decode cL_law 2247 = .ok (.invokevirtual 275, 3) := by decide +kernel
theorem dL_law_2250 : decode cL_law 2250 = .ok (.aload_n 2, 1) := by decide +kernel
theorem dL_law_2251 : decode cL_law 2251 = .ok (.invokevirtual 278, 3) := by decide +kernel
theorem dL_law_2254 : decode cL_law 2254 = .ok (.if_icmp .eq 5, 3) := by decide +kernel
theorem dL_law_2257 : decode cL_law 2257 = .ok (.iconst 0, 1) := by decide +kernel
theorem dL_law_2258 : decode cL_law 2258 = .ok (.ireturn, 1) := by decide +kernel
theorem dL_law_2259 : decode cL_law 2259 = .ok (.iinc 5 6, 3) := by decide +kernel
theorem dL_law_2262 : decode cL_law 2262 = .ok (.goto (-2234), 3) := by decide +kernel
theorem dL_law_2265 : decode cL_law 2265 = .ok (.iconst 1, 1) := by decide +kernel
theorem dL_law_2266 : decode cL_law 2266 = .ok (.ireturn, 1) := by decide +kernel
abbrev vwCl : List vw_C := [(RJ0, TJ0, 2), (RJx00060, TJx00060, 6), (RX0, TX0, 14), (RX1, TX1, 6), (RX3, TX3, 3), (RX4, TX4, 6), (RX5, TX5, 3), (RX6, TX6, 5), (RX7, TX7, 6), (RX8, TX8, 5), (RX9, TX9, 7), (RX10, TX10, 10), (RX11, TX11, 25)]
/-! ===== END printed: names ===== -/
