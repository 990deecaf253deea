/-! NEW CELLS BESIDE A POOL -/
def tt_nzT (t : tt_T) : Bool := match t.1 with
  | 2 => t.2.1.toNat != 0
  | 3 => t.2.1.toNat != 0
  | _ => true
theorem tt_nz : ∀ k : Nat, (tt_tk k).2.2.2.all tt_nzT = true
  | 0 => rfl
  | 1 => rfl
  | 2 => rfl
  | 3 => rfl
  | 4 => rfl
  | 5 => rfl
  | 6 => rfl
  | 7 => rfl
  | 8 => rfl
  | 9 => rfl
  | 10 => rfl
  | 11 => rfl
  | 12 => rfl
  | 13 => rfl
  | 14 => rfl
  | 15 => rfl
  | 16 => rfl
  | 17 => rfl
  | 18 => rfl
  | _ + 19 => rfl
theorem tt_V.ext {K K1 : Nat → Nat} (hx : tt_ex K K1) {t : tt_T} (hz : tt_nzT t = true) {v : Value} (h : tt_V K t v) : tt_V K1 t v := by
  obtain ⟨n, lo, hi⟩ := t
  match n, hz, h with
  | 0, _, h => exact h
  | 1, _, h => exact h
  | 2, hz, h =>
    obtain ⟨a, rfl, ha⟩ := tt_vr h
    exact ⟨a, rfl, hx.kd ha (fun z => by have hz : (lo.toNat != 0) = true := hz; rw [z] at hz; cases hz)⟩
  | 3, hz, h =>
    rcases tt_vn h with rfl | ⟨a, rfl, ha⟩
    · exact Or.inl rfl
    · exact Or.inr ⟨a, rfl, hx.kd ha (fun z => by have hz : (lo.toNat != 0) = true := hz; rw [z] at hz; cases hz)⟩
  | n + 4, _, h => exact h
theorem tt_nzH {l : List tt_T} (h : l.all tt_nzT = true) : tt_nzT (l.headD (0, 0, 0)) = true := by
  cases l with
  | nil => rfl
  | cons t r => exact List.all_eq_true.mp h t List.mem_cons_self
theorem tt_E.ext {cA : Nat → ClassId} {K K1 : Nat → Nat} (hx : tt_ex K K1) {kd : tt_K} (hz : kd.2.2.2.all tt_nzT = true) {e : va_E} (h : tt_E cA K kd e) : tt_E cA K1 kd e := by
  obtain ⟨s, c, n, l⟩ := kd
  match s, h with
  | 0, h =>
    obtain ⟨fs, h1, h2, h3⟩ := h
    exact ⟨fs, h1, h2, fun j t v g1 g2 => (h3 j t v g1 g2).ext hx (List.all_eq_true.mp hz t (List.mem_of_getElem? g1))⟩
  | 1, h =>
    obtain ⟨f, h1, h2⟩ := h
    exact ⟨f, h1, fun j hj => (h2 j hj).ext hx (tt_nzH hz)⟩
  | 2, h =>
    obtain ⟨f, h1, h2⟩ := h
    exact ⟨f, h1, fun j hj => (h2 j hj).ext hx (tt_nzH hz)⟩
  | s + 3, h =>
    obtain ⟨f, h1, h2⟩ := h
    exact ⟨f, h1, fun j hj => (h2 j hj).ext hx (tt_nzH hz)⟩
/-- values of types, one by one -/
def tt_all (K : Nat → Nat) : List tt_T → List Value → Prop
  | [], [] => True
  | t :: ts, v :: vs => tt_V K t v ∧ tt_all K ts vs
  | _, _ => False
theorem tt_all_at {K : Nat → Nat} : ∀ {ts : List tt_T} {vs : List Value}, tt_all K ts vs → vs.length = ts.length ∧ ∀ (j : Nat) (t : tt_T) (v : Value), ts[j]? = some t → vs[j]? = some v → tt_V K t v
  | [], [], _ => ⟨rfl, fun j t v h => by cases h⟩
  | t :: ts, v :: vs, h => by
    obtain ⟨h1, h2⟩ := h
    obtain ⟨g1, g2⟩ := tt_all_at h2
    refine ⟨by rw [List.length_cons, List.length_cons, g1], fun j t2 v2 a b => ?_⟩
    cases j with
    | zero => cases a; cases b; exact h1
    | succ j => exact g2 j t2 v2 a b
theorem tt_Eo {cA : Nat → ClassId} {K : Nat → Nat} {k ci : Nat} {fts : List tt_T} (hk : tt_tk k = (0, ci, 0, fts)) {fs : List Value} (h : tt_all K fts fs) : tt_E cA K (tt_tk k) (.inr (ci, fs)) := by
  rw [hk]
  exact ⟨fs, rfl, (tt_all_at h).1, (tt_all_at h).2⟩
theorem tt_El {cA : Nat → ClassId} {K : Nat → Nat} {k t0 n : Nat} {t : tt_T} (hk : tt_tk k = (2, t0, n, [t])) {f : Nat → Int64} (h : ∀ j : Nat, j < n → tt_V K t (.long (f j))) : tt_E cA K (tt_tk k) (.inl (cA t0, n, .inr (.inl f))) := by
  rw [hk]; exact ⟨f, rfl, h⟩
theorem tt_Ei {cA : Nat → ClassId} {K : Nat → Nat} {k t0 n : Nat} {t : tt_T} (hk : tt_tk k = (1, t0, n, [t])) {f : Nat → Int32} (h : ∀ j : Nat, j < n → tt_V K t (.int (f j))) : tt_E cA K (tt_tk k) (.inl (cA t0, n, .inl f)) := by
  rw [hk]; exact ⟨f, rfl, h⟩
theorem tt_Eq {cA : Nat → ClassId} {K : Nat → Nat} {k t0 n : Nat} {t : tt_T} (hk : tt_tk k = (3, t0, n, [t])) {f : Nat → Option Nat} (h : ∀ j : Nat, j < n → tt_V K t (va_rf (f j))) : tt_E cA K (tt_tk k) (.inl (cA t0, n, .inr (.inr (.inr (.inr f))))) := by
  rw [hk]; exact ⟨f, rfl, h⟩
theorem tt_nil {tk : Nat → tt_K} {cA : Nat → ClassId} : tt_ok tk cA (fun _ => 0) [] := fun _ h => absurd rfl h
theorem tt_at.app {a b : va_W} {o j : Nat} {v : Value} (h : tt_at b o j v) : tt_at (a ++ b) o j v := by
  obtain ⟨i, ci, fs, h1, h2⟩ := h
  exact ⟨a.length + i, ci, fs, by rw [List.getElem?_append_right (Nat.le_add_right _ _), Nat.add_sub_cancel_left]; exact h1, h2⟩
theorem tt_at.appL {a b : va_W} {o j : Nat} {v : Value} (h : tt_at a o j v) : tt_at (a ++ b) o j v := by
  obtain ⟨i, ci, fs, h1, h2⟩ := h
  exact ⟨i, ci, fs, by rw [List.getElem?_append_left (List.getElem?_eq_some_iff.mp h1).1]; exact h1, h2⟩
/-- two pools become one -/
theorem tt_ok.two {cA : Nat → ClassId} {A : Nat → Prop} {K Kn : Nat → Nat} {X w1 pl : va_W} (hD : va_D A ((X ++ w1) ++ pl)) (hok : tt_ok tt_tk cA K pl) (hok1 : tt_ok tt_tk cA Kn w1) : ∃ K1 : Nat → Nat, tt_ok tt_tk cA K1 (w1 ++ pl) ∧ tt_ex K K1 ∧ tt_ex Kn K1 := by
  have hn : ∀ a : Nat, K a ≠ 0 → Kn a = 0 := by
    intro a ha
    refine Classical.byContradiction fun hb => ?_
    obtain ⟨i, e, hi, -⟩ := hok a ha
    obtain ⟨j, f, hj, -⟩ := hok1 a hb
    have hjl := (List.getElem?_eq_some_iff.mp hj).1
    have h1 : ((X ++ w1) ++ pl)[(X ++ w1).length + i]? = some (a, e) := tt_pos hi
    have h2 : ((X ++ w1) ++ pl)[X.length + j]? = some (a, f) := by
      rw [List.getElem?_append_left (by rw [List.length_append]; omega)]; exact tt_pos hj
    have h3 := hD.1 _ _ _ _ h1 h2 rfl
    rw [List.length_append] at h3
    omega
  have hx : tt_ex K (fun a => if Kn a = 0 then K a else Kn a) := fun a ha => by show (if Kn a = 0 then K a else Kn a) = K a; rw [if_pos (hn a ha)]
  have hy : tt_ex Kn (fun a => if Kn a = 0 then K a else Kn a) := fun a ha => by show (if Kn a = 0 then K a else Kn a) = Kn a; rw [if_neg ha]
  refine ⟨_, fun a ha => ?_, hx, hy⟩
  by_cases h : Kn a = 0
  · have h1 : (if Kn a = 0 then K a else Kn a) = K a := if_pos h
    have h2 : K a ≠ 0 := by rw [← h1]; exact ha
    obtain ⟨i, e, hi, hE⟩ := hok a h2
    refine ⟨w1.length + i, e, by rw [List.getElem?_append_right (Nat.le_add_right _ _), Nat.add_sub_cancel_left]; exact hi, ?_⟩
    show tt_E cA _ (tt_tk (if Kn a = 0 then K a else Kn a)) e
    rw [h1]; exact hE.ext hx (tt_nz _)
  · obtain ⟨i, e, hi, hE⟩ := hok1 a h
    refine ⟨i, e, by rw [List.getElem?_append_left (List.getElem?_eq_some_iff.mp hi).1]; exact hi, ?_⟩
    show tt_E cA _ (tt_tk (if Kn a = 0 then K a else Kn a)) e
    rw [if_neg h]; exact hE.ext hy (tt_nz _)
/-- a cell goes over into the pool -/
theorem tt_ok.one {cA : Nat → ClassId} {A : Nat → Prop} {K : Nat → Nat} {X pl : va_W} {q k : Nat} {e : va_E} (hD : va_D A ((X ++ [(q, e)]) ++ pl)) (hok : tt_ok tt_tk cA K pl) (hE : ∀ K1 : Nat → Nat, tt_ex K K1 → K1 q = k → tt_E cA K1 (tt_tk k) e) : ∃ K1 : Nat → Nat, tt_ok tt_tk cA K1 ((q, e) :: pl) ∧ tt_ex K K1 ∧ K1 q = k := by
  have hn : K q = 0 := by
    refine Classical.byContradiction fun hb => ?_
    obtain ⟨i, f, hi, -⟩ := hok q hb
    have h1 : ((X ++ [(q, e)]) ++ pl)[(X ++ [(q, e)]).length + i]? = some (q, f) := tt_pos hi
    have h2 : ((X ++ [(q, e)]) ++ pl)[X.length]? = some (q, e) := by
      rw [List.getElem?_append_left (by rw [List.length_append]; exact Nat.lt_succ_self _), List.getElem?_append_right (Nat.le_refl _), Nat.sub_self]; rfl
    have h3 := hD.1 _ _ _ _ h1 h2 rfl
    rw [List.length_append] at h3
    have h4 : [(q, e)].length = 1 := rfl
    omega
  have hx : tt_ex K (fun a => if a = q then k else K a) := fun a ha => by
    show (if a = q then k else K a) = K a
    rw [if_neg (fun z => ha (by rw [z]; exact hn))]
  have hq : (if q = q then k else K q) = k := if_pos rfl
  refine ⟨_, fun a ha => ?_, hx, hq⟩
  by_cases h : a = q
  · subst h
    refine ⟨0, e, rfl, ?_⟩
    show tt_E cA _ (tt_tk (if a = a then k else K a)) e
    rw [if_pos rfl]; exact hE _ hx hq
  · have h1 : (if a = q then k else K a) = K a := if_neg h
    have h2 : K a ≠ 0 := by rw [← h1]; exact ha
    obtain ⟨i, f, hi, hF⟩ := hok a h2
    refine ⟨i + 1, f, hi, ?_⟩
    show tt_E cA _ (tt_tk (if a = q then k else K a)) f
    rw [h1]; exact hF.ext hx (tt_nz _)
section TA
variable {p : Program} {l : Launch} {e : Env} {R : Room} {s : State} {m : MethodId} {args : Array Value} {below : List Frame} {meth : Method} {c : Code}
variable {nL : Nat} {A : Nat → Prop} {Q : State → Prop} {cells slots pc : Nat} {lv : List (Nat × Value)} {st rest : List Value} {cc : ByteArray} {own : String} {ret : Option FieldType} {D : va_G} {cA : Nat → ClassId} {ak : (Nat → Nat) × (Nat → Nat)} {X X2 pl cx wr wt w1 : va_W} {K Kn : Nat → Nat} {mc ms : Nat} {O : va_W → Option Value → Prop}
/-- new cells go in front of the pool -/
theorem tt_swp {cs : va_W} (h : jj_ap X cs = some X2) (kk : jj_J p l e R s m args below meth c nL A Q (jj_X D A (X2 ++ pl)) cells slots pc lv st) : jj_J p l e R s m args below meth c nL A Q (jj_X D A ((X ++ pl) ++ cs)) cells slots pc lv st := by
  have e1 := jj_ap_eq h
  subst e1
  exact fun H locs ls hW hS hl => kk H locs ls ⟨hW.1.swap, hW.2.swap⟩ hS hl
theorem tt_apd (h : jj_ap wr w1 = some wt) (kk : jj_J p l e R s m args below meth c nL A Q (jj_X D A (wt ++ pl)) cells slots pc lv st) : jj_J p l e R s m args below meth c nL A Q (jj_X D A ((wr ++ w1) ++ pl)) cells slots pc lv st := by rw [jj_ap_eq h]; exact kk
theorem tt_pl0 (kk : jj_J p l e R s m args below meth c nL A Q (jj_X D A (X ++ [])) cells slots pc lv st) : jj_J p l e R s m args below meth c nL A Q (jj_X D A X) cells slots pc lv st := by rw [List.append_nil] at kk; exact kk
/-- a cell goes over into the pool -/
theorem tt_prom {q k : Nat} {ce : va_E} (X : va_W) (hX : X ++ [(q, ce)] = X2) (hok : tt_ok tt_tk cA K pl) (hE : ∀ K1 : Nat → Nat, tt_ex K K1 → K1 q = k → tt_E cA K1 (tt_tk k) ce) (kk : ∀ (K1 : Nat → Nat) (pl1 : va_W), tt_ok tt_tk cA K1 pl1 → tt_ex K K1 → K1 q = k → (∀ (b j : Nat) (v : Value), tt_at pl b j v → tt_at pl1 b j v) → (∀ (ci j : Nat) (fs : List Value) (v : Value), ce = .inr (ci, fs) → fs[j]? = some v → tt_at pl1 q j v) → jj_J p l e R s m args below meth c nL A Q (jj_X D A (X ++ pl1)) cells slots pc lv st) : jj_J p l e R s m args below meth c nL A Q (jj_X D A (X2 ++ pl)) cells slots pc lv st := by
  subst hX
  intro H locs ls hW hS hl
  obtain ⟨K1, h1, h2, h3⟩ := tt_ok.one hW.2 hok hE
  have e1 : (X ++ [(q, ce)]) ++ pl = X ++ ((q, ce) :: pl) := by rw [List.append_assoc]; rfl
  rw [e1] at hW
  exact kk K1 ((q, ce) :: pl) h1 h2 h3 (fun b j v h => tt_at.app (a := [(q, ce)]) h) (fun ci j fs v g1 g2 => ⟨0, ci, fs, by rw [g1]; rfl, g2⟩) H locs ls hW hS hl
/-- a pool that a callee made goes over into the pool -/
theorem tt_merge (hok : tt_ok tt_tk cA K pl) (hok1 : tt_ok tt_tk cA Kn w1) (kk : ∀ (K1 : Nat → Nat) (pl1 : va_W), tt_ok tt_tk cA K1 pl1 → tt_ex K K1 → tt_ex Kn K1 → (∀ (b j : Nat) (v : Value), tt_at pl b j v → tt_at pl1 b j v) → (∀ (b j : Nat) (v : Value), tt_at w1 b j v → tt_at pl1 b j v) → jj_J p l e R s m args below meth c nL A Q (jj_X D A (wr ++ pl1)) cells slots pc lv st) : jj_J p l e R s m args below meth c nL A Q (jj_X D A ((wr ++ w1) ++ pl)) cells slots pc lv st := by
  intro H locs ls hW hS hl
  obtain ⟨K1, h1, h2, h3⟩ := tt_ok.two hW.2 hok hok1
  rw [List.append_assoc] at hW
  exact kk K1 (w1 ++ pl) h1 h2 h3 (fun b j v h => tt_at.app h) (fun b j v h => tt_at.appL h) H locs ls hW hS hl
theorem tt_preI (C : jj_C p l s m args meth c cc nL own ret D cA A ak) {H : Heap} {locs : List Loc} (hW : jj_X D A (X ++ pl) H) (hS : va_S A s.heap H locs) (isC : List Nat) (hC : isC.map (fun i => X[i]?) = cx.map some) (hnC : va_nd isC = true) (As : List Value) : ∀ U : State, U.heap = H → s.WarmedH U.vm → jj_p D cA ak cx H.size As As.toArray U := by
  intro U hU hWm
  have hFP := va_freeP hW.2 hS C.2.2.2.2.2.2.2.2.1 isC hC
  have hF : ∀ q, va_A cx H.size q → A q := fun q h => hFP q (by
    rcases h with ⟨k, ce, h⟩ | h
    · exact Or.inl ⟨k, ce, by rw [List.getElem?_append_left (List.getElem?_eq_some_iff.mp h).1]; exact h⟩
    · exact Or.inr h)
  have hB := (C.2.2.2.2.2.2.2.2.2.2.kept (H1 := H) hS.2.1).narrow hF
  have hL : jj_X D A cx H := jj_leftH (wr := cx) (w1 := pl) ⟨hW.1.part isC hC, hW.2.part isC hnC hC⟩
  refine ⟨rfl, by rw [hU], by rw [hU]; exact hL.1, va_K.moved hWm.alike C.2.2.2.2.2.2.2.1, hL.2.weaken (fun _ _ _ _ => trivial), ?_⟩
  rw [hU]
  exact jj_B.warm hWm hB
theorem tt_runI (C : jj_C p l s m args meth c cc nL own ret D cA A ak) {H : Heap} {locs : List Loc} {ls : Array Slot} {a0 : Array Value} (hW : jj_X D A (X ++ pl) H) (hS : va_S A s.heap H locs) (hl : lv_has ls nL lv) (isC isR : List Nat) (hC : isC.map (fun i => X[i]?) = cx.map some) (hR : isR.map (fun i => X[i]?) = wr.map some) (hn : va_nd isR = true) (hdis : ∀ i ∈ isR, i ∉ isC)
    (hr : va_Run p l e R s m args below meth c H locs cells slots mc ms (F0 m pc ls st) rest (jj_q D (va_A cx H.size) O a0) (va_A cx H.size))
    (kk : ∀ (w1 : va_W) (r : Option Value), O w1 r → jj_J p l e R s m args below meth c nL A Q (jj_X D A ((wr ++ w1) ++ pl)) (cells + mc) (slots + ms) (pc + 3) lv (r.toList ++ rest)) : W p l e R s m args below meth c H locs cells slots Q (F0 m pc ls st) := by
  have hFP := va_freeP hW.2 hS C.2.2.2.2.2.2.2.2.1 isC hC
  have hF : ∀ q, va_A cx H.size q → A q := fun q h => hFP q (by
    rcases h with ⟨k, ce, h⟩ | h
    · exact Or.inl ⟨k, ce, by rw [List.getElem?_append_left (List.getElem?_eq_some_iff.mp h).1]; exact h⟩
    · exact Or.inr h)
  intro T hT X9
  obtain ⟨v, st₀, t, T', L, h0, X', hL, e1, e2, ⟨⟨w1, r, hO, hv, hX1⟩, hFr⟩, sp⟩ := hr T hT X9
  cases hv
  obtain ⟨k1, k2, k3⟩ := vx_keep h0 e1 hS (fun q _ h => hF q h) hF hL hFr
  rw [← e1] at hX1
  obtain ⟨hP2, hD2⟩ := va_joinQ hW.1 hW.2 isC isR hC hR hn hdis k2 hF hX1.1 hX1.2
  obtain ⟨t2, a1, b1⟩ := kk w1 _ hO T'.heap (locs ++ L) ls ⟨hP2, hD2⟩ k3 hl T' rfl X'
  exact ⟨t2, sp t2 a1, b1⟩
theorem tt_callI0 (C : jj_C p l s m args meth c cc nL own ret D cA A ak) {y : MethodName} {bytes : ByteArray} {maxL fr lo index n b : Nat} {As : List Value} (hM : jj_I l D cA ak y (.code y bytes maxL none) fr lo mc ms cx (.ref b :: As) O) (isC isR : List Nat) (hC : isC.map (fun i => X[i]?) = cx.map some) (hR0 : jj_pk isR X = some wr) (hnC : va_nd isC = true) (hn : va_nd isR = true) (hdis : ∀ i ∈ isR, i ∉ isC)
    (h1 : Cond.methodLink own index y ∈ jj_G) (h2 : Cond.instanceMethod y ∈ jj_G) (h4 : Cond.initialized y.cls ∈ jj_G) (h5 : Cond.code y bytes maxL none ∈ jj_G) (hy : y.name = "<init>") (hN : jj_N y n) (hAs : As.length = n) (hfr : fr + 1 ≤ R.frames) (hlo : 8 + (maxL + 11) + lo ≤ R.locals) (hcl : cells + mc ≤ R.cells) (hsl : slots + ms ≤ R.slots) (hcat : (rest.map fun v => v.category).sum ≤ 8) (hd : decode cc pc = .ok (.invokespecial index, 3)) (hst : st = As.reverse ++ .ref b :: rest) (kk : ∀ (w1 : va_W) (r : Option Value), O w1 r → jj_J p l e R s m args below meth c nL A Q (jj_X D A ((wr ++ w1) ++ pl)) (cells + mc) (slots + ms) (pc + 3) lv (r.toList ++ rest)) : jj_J p l e R s m args below meth c nL A Q (jj_X D A (X ++ pl)) cells slots pc lv st := by
  have hR := jj_pk_eq hR0
  intro H locs ls hW hS hl
  have hPr := tt_preI C hW hS isC hC hnC (.ref b :: As)
  have hg := jj_gi (own := own) (ws := []) (cw := .code y bytes maxL none) (fun w hw => by cases hw) h5
  have ht := C.2.2.2.2.2.1
  exact tt_runI (a0 := (Value.ref b :: As).toArray) C hW hS hl isC isR hC hR hn hdis (va_runI (Ts := jj_G) (As := As) (rest := rest) ⟨C.1, C.2.1, C.2.2.1, C.2.2.2.2.1, C.2.2.2.2.2.1⟩ (hM H.size) (cwI n ht hg rfl rfl rfl (ht _ h4) (ht _ h1) (ht _ h2) hy hN ⟨hfr, hlo⟩) ⟨jj_blind, hPr⟩ rfl hAs hl.1 hst (by show 2 * 0 + _ ≤ 8; omega) hd ⟨hcl, hsl⟩) kk
theorem tt_callIN0 (C : jj_C p l s m args meth c cc nL own ret D cA A ak) {y : MethodName} {bytes : ByteArray} {host : String} {maxL fr lo index n b : Nat} {As : List Value} (hM : jj_I l D cA ak y (.code y bytes maxL none) fr lo mc ms cx (.ref b :: As) O) (isC isR : List Nat) (hC : isC.map (fun i => X[i]?) = cx.map some) (hR0 : jj_pk isR X = some wr) (hnC : va_nd isC = true) (hn : va_nd isR = true) (hdis : ∀ i ∈ isR, i ∉ isC)
    (h1 : (own, index, y, host) ∈ jj_nest) (h2 : Cond.instanceMethod y ∈ jj_G) (h4 : Cond.initialized y.cls ∈ jj_G) (h5 : Cond.code y bytes maxL none ∈ jj_G) (hy : y.name = "<init>") (hN : jj_N y n) (hAs : As.length = n) (hfr : fr + 1 ≤ R.frames) (hlo : 8 + (maxL + 11) + lo ≤ R.locals) (hcl : cells + mc ≤ R.cells) (hsl : slots + ms ≤ R.slots) (hcat : (rest.map fun v => v.category).sum ≤ 8) (hd : decode cc pc = .ok (.invokespecial index, 3)) (hst : st = As.reverse ++ .ref b :: rest) (kk : ∀ (w1 : va_W) (r : Option Value), O w1 r → jj_J p l e R s m args below meth c nL A Q (jj_X D A ((wr ++ w1) ++ pl)) (cells + mc) (slots + ms) (pc + 3) lv (r.toList ++ rest)) : jj_J p l e R s m args below meth c nL A Q (jj_X D A (X ++ pl)) cells slots pc lv st := by
  have hR := jj_pk_eq hR0
  intro H locs ls hW hS hl
  have hPr := tt_preI C hW hS isC hC hnC (.ref b :: As)
  have hg := jj_gi (own := own) (ws := []) (cw := .code y bytes maxL none) (fun w hw => by cases hw) h5
  have ht := C.2.2.2.2.2.1
  exact tt_runI (a0 := (Value.ref b :: As).toArray) C hW hS hl isC isR hC hR hn hdis (va_runIN (Ts := jj_G) (As := As) (rest := rest) ⟨C.1, C.2.1, C.2.2.1, C.2.2.2.2.1, C.2.2.2.2.2.1⟩ (hM H.size) ⟨va_cnB n ht hg rfl rfl rfl (C.2.2.2.2.2.2.2.2.2.2.2.2.2.2.2.2.2.2.2.1 _ h1) (ht _ h4) hN ⟨hfr, hlo⟩, hy, ht _ h2⟩ ⟨jj_blind, hPr⟩ rfl hAs hl.1 hst (by show 2 * 0 + _ ≤ 8; omega) hd ⟨hcl, hsl⟩) kk
end TA
