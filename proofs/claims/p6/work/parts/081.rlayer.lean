/-! THE R LAYER: contents of arrays of longs beside the typed pool -/
/-- what an array of longs, or of ints, holds -/
def tt_xc (pl : va_W) (a : Nat) : (Nat → Int64) ⊕ (Nat → Int32) → Prop
  | .inl f => ∃ (i n : Nat) (c0 : ClassId), pl[i]? = some (a, .inl (c0, n, .inr (.inl f)))
  | .inr f => ∃ (i n : Nat) (c0 : ClassId), pl[i]? = some (a, .inl (c0, n, .inl f))
abbrev tt_lc (pl : va_W) (a : Nat) (f : Nat → Int64) : Prop := tt_xc pl a (.inl f)
abbrev tt_ic (pl : va_W) (a : Nat) (f : Nat → Int32) : Prop := tt_xc pl a (.inr f)
/-- the frame of a method over arrays of longs and ints -/
def tt_fa (K : Nat → Nat) (WA : List Nat) (pl pl1 : va_W) : Prop := ∀ (b : Nat) (x : (Nat → Int64) ⊕ (Nat → Int32)), K b ≠ 0 → K b ∉ WA → tt_xc pl b x → tt_xc pl1 b x
theorem tt_fa.refl {K : Nat → Nat} {WA : List Nat} (pl : va_W) : tt_fa K WA pl pl := fun _ _ _ _ h => h
theorem tt_fa.trans {K : Nat → Nat} {WA : List Nat} {a b c : va_W} (h : tt_fa K WA a b) (g : tt_fa K WA b c) : tt_fa K WA a c := fun x f z n h9 => g x f z n (h x f z n h9)
theorem tt_fa.sub {K : Nat → Nat} {WA WB : List Nat} {a b : va_W} (h : tt_fa K WA a b) (hs : ∀ q ∈ WA, q ∈ WB) : tt_fa K WB a b := fun x f z n h9 => h x f z (fun y => n (hs _ y)) h9
theorem tt_fa.all {K : Nat → Nat} {WA : List Nat} {a b c : va_W} (h : tt_fa K WA a b) (tl : ∀ (o : Nat) (x : (Nat → Int64) ⊕ (Nat → Int32)), tt_xc b o x → tt_xc c o x) : tt_fa K WA a c := fun x f z n h9 => tl x f (h x f z n h9)
theorem tt_fa.wr {K : Nat → Nat} {WA : List Nat} {a b c : va_W} (h : tt_fa K WA a b) {o kn : Nat} (ho : K o = kn) (tl : ∀ (q : Nat) (x : (Nat → Int64) ⊕ (Nat → Int32)), q ≠ o → tt_xc b q x → tt_xc c q x) (hm : kn ∈ WA) : tt_fa K WA a c := fun x f z n h9 => tl x f (fun y => n (by rw [y, ho]; exact hm)) (h x f z n h9)
theorem tt_fa.at {K : Nat → Nat} {WA : List Nat} {a b : va_W} (h : tt_fa K WA a b) {o k : Nat} {x : (Nat → Int64) ⊕ (Nat → Int32)} (ho : K o = k) (hk : k ≠ 0) (hn : k ∉ WA) (h9 : tt_xc a o x) : tt_xc b o x := h o x (by rw [ho]; exact hk) (by rw [ho]; exact hn) h9
theorem tt_xc.set {pl : va_W} {i a : Nat} {e e2 : va_E} (hi : pl[i]? = some (a, e)) {b : Nat} {x : (Nat → Int64) ⊕ (Nat → Int32)} (hne : b ≠ a) (h : tt_xc pl b x) : tt_xc (pl.set i (a, e2)) b x := by
  have hij : ∀ (j : Nat) (q : va_E), pl[j]? = some (b, q) → i ≠ j := fun j q h1 z => by subst z; exact hne (Prod.mk.inj (Option.some.inj (h1.symm.trans hi))).1
  cases x with
  | inl f => obtain ⟨j, n, c0, h1⟩ := h; exact ⟨j, n, c0, by rw [List.getElem?_set_ne (hij j _ h1)]; exact h1⟩
  | inr f => obtain ⟨j, n, c0, h1⟩ := h; exact ⟨j, n, c0, by rw [List.getElem?_set_ne (hij j _ h1)]; exact h1⟩
theorem tt_xc.setO {pl : va_W} {i a ci : Nat} {fs : List Value} {e2 : va_E} (hi : pl[i]? = some (a, .inr (ci, fs))) {b : Nat} {x : (Nat → Int64) ⊕ (Nat → Int32)} (h : tt_xc pl b x) : tt_xc (pl.set i (a, e2)) b x := by
  cases x with
  | inl f => obtain ⟨j, n, c0, h1⟩ := h; exact ⟨j, n, c0, by rw [List.getElem?_set_ne (fun z => by subst z; cases hi.symm.trans h1)]; exact h1⟩
  | inr f => obtain ⟨j, n, c0, h1⟩ := h; exact ⟨j, n, c0, by rw [List.getElem?_set_ne (fun z => by subst z; cases hi.symm.trans h1)]; exact h1⟩
/-- natural ints -/
theorem rl_ti {e : Nat} (h : e < 2147483648) : (nI e).toInt = (e : Int) := by
  unfold nI; rw [Int32.toInt_ofNat_of_lt (by omega)]
theorem rl_tl {e : Nat} (h : e < 2147483648) : ((nI e).toInt64).toInt = (e : Int) := by rw [Int32.toInt_toInt64]; exact rl_ti h
theorem rl_add {a b c : Nat} (h : a + b = c) : nI a + nI b = nI c := by subst h; unfold nI; rw [Int32.ofNat_add]
theorem rl_addR {a c kn : Nat} {k : Int32} (hk : k = nI kn) (h : a + kn = c) : nI a + k = nI c := by subst hk; exact rl_add h
theorem rl_addL {a c kn : Nat} {k : Int32} (hk : k = nI kn) (h : kn + a = c) : k + nI a = nI c := by subst hk; exact rl_add h
theorem rl_mulL {a c kn : Nat} {k : Int32} (hk : k = nI kn) (h : kn * a = c) : k * nI a = nI c := by subst hk; subst h; unfold nI; rw [Int32.ofNat_mul]
theorem rl_mulR {a c kn : Nat} {k : Int32} (hk : k = nI kn) (h : a * kn = c) : nI a * k = nI c := by subst hk; subst h; unfold nI; rw [Int32.ofNat_mul]
theorem rl_l2i {x : Int64} (h0 : 0 ≤ x.toInt) (h1 : x.toInt < 2147483648) : ∃ n : Nat, x.toInt32 = nI n ∧ x.toInt = (n : Int) := by
  refine ⟨x.toInt.toNat, ?_, by omega⟩
  have h2 : (x.toInt.toNat : Int) = x.toInt := by omega
  refine Int32.toInt_inj.mp ?_
  rw [rl_ti (by omega), h2, Int64.toInt_toInt32]
  exact Int.bmod_eq_of_le (by omega) (by omega)
theorem rl_eq {f : Nat → Int64} {j k : Nat} {x : Int64} (h : k = j) : vp_updL f j x k = x := by subst h; unfold vp_updL; rw [if_pos rfl]
theorem rl_ne {f : Nat → Int64} {j k : Nat} {x v : Int64} (h : k ≠ j) (g : f k = v) : vp_updL f j x k = v := by unfold vp_updL; rw [if_neg h]; exact g
section TR
variable {p : Program} {l : Launch} {e : Env} {R : Room} {s : State} {m : MethodId} {args : Array Value} {below : List Frame} {meth : Method} {c : Code}
variable {nL : Nat} {A : Nat → Prop} {Q : State → Prop} {cells slots pc : Nat} {lv : List (Nat × Value)} {st rest : List Value} {cc : ByteArray} {own : String} {ret : Option FieldType} {D : va_G} {cA : Nat → ClassId} {ak : (Nat → Nat) × (Nat → Nat)} {X pl cx wr : va_W} {tk : Nat → tt_K} {Kd : Nat → Nat} {mc ms : Nat}
theorem rl_put (C : jj_C p l s m args meth c cc nL own ret D cA A ak) (hok : tt_ok tk cA Kd pl) {a kn ci index : Nat} {Cn : String} {T : u_T} {N : Nat} {ty : Nat → FieldType} (K : jj_K ci Cn T N ty) (k : Nat) (hk : k < N) (hw : Cond.fieldLink own index (T k).1 (T k).2.1 (T k).2.2.1 ∈ jj_G) {fts : List tt_T} {t : tt_T} (ha : Kd a = kn) (hn : kn ≠ 0) (htk : tk kn = (0, ci, 0, fts)) (ht : fts[k]? = some t) (hfin : (T k).2.2.2 = false) {v : Value} (hV : tt_V Kd t v) (hnar : narrow (ty k) v = v) (hfit : fits (ty k) v = true) (hd : decode cc pc = .ok (.putfield index, 3)) (kk : ∀ pl2 : va_W, tt_ok tk cA Kd pl2 → (∀ (b j : Nat) (w : Value), (b ≠ a ∨ j ≠ k) → tt_at pl b j w → tt_at pl2 b j w) → tt_at pl2 a k v → (∀ (b : Nat) (x : (Nat → Int64) ⊕ (Nat → Int32)), tt_xc pl b x → tt_xc pl2 b x) → jj_J p l e R s m args below meth c nL A Q (jj_X D A (X ++ pl2)) cells slots (pc + 3) lv st) : jj_J p l e R s m args below meth c nL A Q (jj_X D A (X ++ pl)) cells slots pc lv (v :: .ref a :: st) := by
  intro H locs ls hW hS hl
  obtain ⟨i, e9, hi, hE⟩ := hok a (by rw [ha]; exact hn)
  rw [ha, htk] at hE
  obtain ⟨fs, rfl, hlen, hty⟩ := (show ∃ fs : List Value, e9 = .inr (ci, fs) ∧ fs.length = fts.length ∧ ∀ (j : Nat) (t : tt_T) (v : Value), fts[j]? = some t → fs[j]? = some v → tt_V Kd t v from hE)
  have hkl : k < fs.length := by rw [hlen]; exact (List.getElem?_eq_some_iff.mp ht).1
  have hok2 : tt_ok tk cA Kd (pl.set i (a, .inr (ci, fs.set k v))) := hok.set hi (fun _ => by
    rw [ha, htk]
    refine ⟨fs.set k v, rfl, by rw [List.length_set]; exact hlen, fun j t2 v2 h1 h2 => ?_⟩
    by_cases hj : k = j
    · subst hj
      rw [List.getElem?_set_self hkl] at h2
      cases h2
      rw [show t2 = t from Option.some.inj (h1.symm.trans ht)]
      exact hV
    · rw [List.getElem?_set_ne hj] at h2
      exact hty j t2 v2 h1 h2)
  exact va_put (Ts := jj_G) C.1 C.2.1 C.2.2.2.2.2.1 K.2.1 ty K.2.2.1 K.2.2.2 C.2.2.2.2.1 C.2.2.2.2.2.2.2.1 hW.1 hW.2 hS (X.length + i) (tt_pos hi) K.1 k hk (C.2.2.2.2.2.1 _ hw) (fun _ h9 => h9) hfin (K.2.2.1 k hk) hnar hfit hkl hd (fun H1 locs1 p1 d1 s1 => kk _ hok2 (fun b j w h9 h8 => tt_at.set hi h9 h8) ⟨i, ci, fs.set k v, by rw [List.getElem?_set_self (List.getElem?_eq_some_iff.mp hi).1], by rw [List.getElem?_set_self hkl]⟩ (fun b f h8 => tt_xc.setO hi h8) H1 locs1 ls ⟨by rw [← tt_set]; exact p1, by rw [← tt_set]; exact d1⟩ s1 hl)
theorem rl_lald (C : jj_C p l s m args meth c cc nL own ret D cA A ak) (hok : tt_ok tk cA Kd pl) {a kn n : Nat} {t : tt_T} (ha : Kd a = kn) (hn : kn ≠ 0) (htk : tk kn = (2, 2, n, [t])) {i : Int32} {f : Nat → Int64} {k : Nat} {v : Int64} (hin : vp_in i n) (hf : tt_lc pl a f) (hk : i.toNatClampNeg = k) (hv : f k = v) (hd : decode cc pc = .ok (.laload, 1)) (kk : jj_J p l e R s m args below meth c nL A Q (jj_X D A (X ++ pl)) cells slots (pc + 1) lv (.long v :: st)) : jj_J p l e R s m args below meth c nL A Q (jj_X D A (X ++ pl)) cells slots pc lv (.int i :: .ref a :: st) := by
  intro H locs ls hW hS hl
  obtain ⟨j, e9, hi, hE⟩ := hok a (by rw [ha]; exact hn)
  rw [ha, htk] at hE
  obtain ⟨g, rfl, hel⟩ := (show ∃ g : Nat → Int64, e9 = .inl (cA 2, n, .inr (.inl g)) ∧ ∀ j : Nat, j < n → tt_V Kd t (.long (g j)) from hE)
  obtain ⟨j2, n2, c2, h2⟩ := hf
  obtain ⟨rfl, h3⟩ := tt_one hW.2 hi h2
  cases h3
  subst hk; subst hv
  exact jj_lald C (X.length + j) (tt_pos hi) hin rfl hd kk H locs ls hW hS hl
theorem rl_last (C : jj_C p l s m args meth c cc nL own ret D cA A ak) (hok : tt_ok tk cA Kd pl) {a kn n : Nat} {t : tt_T} (ha : Kd a = kn) (hn : kn ≠ 0) (htk : tk kn = (2, 2, n, [t])) {i : Int32} {x : Int64} {k : Nat} (hin : vp_in i n) (hV : tt_V Kd t (.long x)) (hk : i.toNatClampNeg = k) (hd : decode cc pc = .ok (.lastore, 1)) (kk : ∀ pl2 : va_W, tt_ok tk cA Kd pl2 → (∀ (b j : Nat) (w : Value), tt_at pl b j w → tt_at pl2 b j w) → (∀ (b : Nat) (x : (Nat → Int64) ⊕ (Nat → Int32)), b ≠ a → tt_xc pl b x → tt_xc pl2 b x) → (∀ f : Nat → Int64, tt_lc pl a f → tt_lc pl2 a (vp_updL f k x)) → jj_J p l e R s m args below meth c nL A Q (jj_X D A (X ++ pl2)) cells slots (pc + 1) lv st) : jj_J p l e R s m args below meth c nL A Q (jj_X D A (X ++ pl)) cells slots pc lv (.long x :: .int i :: .ref a :: st) := by
  intro H locs ls hW hS hl
  obtain ⟨j, e9, hi, hE⟩ := hok a (by rw [ha]; exact hn)
  rw [ha, htk] at hE
  obtain ⟨f, rfl, hel⟩ := (show ∃ f : Nat → Int64, e9 = .inl (cA 2, n, .inr (.inl f)) ∧ ∀ j : Nat, j < n → tt_V Kd t (.long (f j)) from hE)
  have hok2 : tt_ok tk cA Kd (pl.set j (a, .inl (cA 2, n, .inr (.inl (vp_updL f i.toNatClampNeg x))))) := hok.set hi (fun _ => by
    rw [ha, htk]
    refine ⟨vp_updL f i.toNatClampNeg x, rfl, fun k hk => ?_⟩
    by_cases h9 : k = i.toNatClampNeg
    · rw [h9]; show tt_V Kd t (.long (if _ then _ else _)); rw [if_pos rfl]; exact hV
    · show tt_V Kd t (.long (if _ then _ else _)); rw [if_neg h9]; exact hel k hk)
  have hone := hW.2
  exact va_last C.1 C.2.1 C.2.2.2.2.2.2.2.1 hW.1 hW.2 hS (X.length + j) 2 (tt_pos hi) rfl hin hd (fun H1 locs1 p1 d1 s1 => kk _ hok2 (fun b j2 w9 h8 => by
    obtain ⟨n1, c1, g1, q1, q2⟩ := h8
    refine ⟨n1, c1, g1, ?_, q2⟩
    have hne : j ≠ n1 := fun z => by subst z; cases hi.symm.trans q1
    rw [List.getElem?_set_ne hne]; exact q1) (fun b f9 hne h8 => tt_xc.set hi hne h8) (fun f9 h8 => by
    obtain ⟨j2, n2, c2, h2⟩ := h8
    obtain ⟨rfl, h3⟩ := tt_one hone hi h2
    cases h3
    subst hk
    exact ⟨j, n, cA 2, by rw [List.getElem?_set_self (List.getElem?_eq_some_iff.mp hi).1]⟩) H1 locs1 ls ⟨by rw [← tt_set]; exact p1, by rw [← tt_set]; exact d1⟩ s1 hl)
theorem rl_bast (C : jj_C p l s m args meth c cc nL own ret D cA A ak) (hok : tt_ok tk cA Kd pl) {a kn n : Nat} {t : tt_T} (ha : Kd a = kn) (hn : kn ≠ 0) (htk : tk kn = (1, 0, n, [t])) {i : Int32} {x : Int32} (hin : vp_in i n) (hV : tt_V Kd t (.int (vp_nar .byte x))) (hd : decode cc pc = .ok (.bastore, 1)) (kk : ∀ pl2 : va_W, tt_ok tk cA Kd pl2 → (∀ (b j : Nat) (w : Value), tt_at pl b j w → tt_at pl2 b j w) → (∀ (b : Nat) (x : (Nat → Int64) ⊕ (Nat → Int32)), b ≠ a → tt_xc pl b x → tt_xc pl2 b x) → (∀ f : Nat → Int32, tt_ic pl a f → tt_ic pl2 a (upd f i.toNatClampNeg (vp_nar .byte x))) → jj_J p l e R s m args below meth c nL A Q (jj_X D A (X ++ pl2)) cells slots (pc + 1) lv st) : jj_J p l e R s m args below meth c nL A Q (jj_X D A (X ++ pl)) cells slots pc lv (.int x :: .int i :: .ref a :: st) := by
  intro H locs ls hW hS hl
  obtain ⟨j, e9, hi, hE⟩ := hok a (by rw [ha]; exact hn)
  rw [ha, htk] at hE
  obtain ⟨f, rfl, hel⟩ := (show ∃ f : Nat → Int32, e9 = .inl (cA 0, n, .inl f) ∧ ∀ j : Nat, j < n → tt_V Kd t (.int (f j)) from hE)
  have hok2 : tt_ok tk cA Kd (pl.set j (a, .inl (cA 0, n, .inl (upd f i.toNatClampNeg (vp_nar .byte x))))) := hok.set hi (fun _ => by
    rw [ha, htk]
    refine ⟨upd f i.toNatClampNeg (vp_nar .byte x), rfl, fun k hk => ?_⟩
    by_cases h9 : k = i.toNatClampNeg
    · rw [h9]; show tt_V Kd t (.int (if _ then _ else _)); rw [if_pos rfl]; exact hV
    · show tt_V Kd t (.int (if _ then _ else _)); rw [if_neg h9]; exact hel k hk)
  have hone := hW.2
  exact va_bast C.1 C.2.1 C.2.2.2.2.2.2.2.1 hW.1 hW.2 hS (X.length + j) 0 (tt_pos hi) rfl hin hd (fun H1 locs1 p1 d1 s1 => kk _ hok2 (fun b j2 w9 h8 => by
    obtain ⟨n1, c1, g1, q1, q2⟩ := h8
    refine ⟨n1, c1, g1, ?_, q2⟩
    have hne : j ≠ n1 := fun z => by subst z; cases hi.symm.trans q1
    rw [List.getElem?_set_ne hne]; exact q1) (fun b f9 hne h8 => tt_xc.set hi hne h8) (fun f9 h8 => by
    obtain ⟨j2, n2, c2, h2⟩ := h8
    obtain ⟨rfl, h3⟩ := tt_one hone hi h2
    cases h3
    exact ⟨j, n, cA 0, by rw [List.getElem?_set_self (List.getElem?_eq_some_iff.mp hi).1]⟩) H1 locs1 ls ⟨by rw [← tt_set]; exact p1, by rw [← tt_set]; exact d1⟩ s1 hl)
theorem rl_zast (C : jj_C p l s m args meth c cc nL own ret D cA A ak) (hok : tt_ok tk cA Kd pl) {a kn n : Nat} {t : tt_T} (ha : Kd a = kn) (hn : kn ≠ 0) (htk : tk kn = (1, 3, n, [t])) {i : Int32} {x : Int32} (hin : vp_in i n) (hV : tt_V Kd t (.int (vp_nar .boolean x))) (hd : decode cc pc = .ok (.bastore, 1)) (kk : ∀ pl2 : va_W, tt_ok tk cA Kd pl2 → (∀ (b j : Nat) (w : Value), tt_at pl b j w → tt_at pl2 b j w) → (∀ (b : Nat) (x : (Nat → Int64) ⊕ (Nat → Int32)), b ≠ a → tt_xc pl b x → tt_xc pl2 b x) → (∀ f : Nat → Int32, tt_ic pl a f → tt_ic pl2 a (upd f i.toNatClampNeg (vp_nar .boolean x))) → jj_J p l e R s m args below meth c nL A Q (jj_X D A (X ++ pl2)) cells slots (pc + 1) lv st) : jj_J p l e R s m args below meth c nL A Q (jj_X D A (X ++ pl)) cells slots pc lv (.int x :: .int i :: .ref a :: st) := by
  intro H locs ls hW hS hl
  obtain ⟨j, e9, hi, hE⟩ := hok a (by rw [ha]; exact hn)
  rw [ha, htk] at hE
  obtain ⟨f, rfl, hel⟩ := (show ∃ f : Nat → Int32, e9 = .inl (cA 3, n, .inl f) ∧ ∀ j : Nat, j < n → tt_V Kd t (.int (f j)) from hE)
  have hok2 : tt_ok tk cA Kd (pl.set j (a, .inl (cA 3, n, .inl (upd f i.toNatClampNeg (vp_nar .boolean x))))) := hok.set hi (fun _ => by
    rw [ha, htk]
    refine ⟨upd f i.toNatClampNeg (vp_nar .boolean x), rfl, fun k hk => ?_⟩
    by_cases h9 : k = i.toNatClampNeg
    · rw [h9]; show tt_V Kd t (.int (if _ then _ else _)); rw [if_pos rfl]; exact hV
    · show tt_V Kd t (.int (if _ then _ else _)); rw [if_neg h9]; exact hel k hk)
  have hone := hW.2
  exact va_zast C.1 C.2.1 C.2.2.2.2.2.2.2.1 hW.1 hW.2 hS (X.length + j) 3 (tt_pos hi) rfl hin hd (fun H1 locs1 p1 d1 s1 => kk _ hok2 (fun b j2 w9 h8 => by
    obtain ⟨n1, c1, g1, q1, q2⟩ := h8
    refine ⟨n1, c1, g1, ?_, q2⟩
    have hne : j ≠ n1 := fun z => by subst z; cases hi.symm.trans q1
    rw [List.getElem?_set_ne hne]; exact q1) (fun b f9 hne h8 => tt_xc.set hi hne h8) (fun f9 h8 => by
    obtain ⟨j2, n2, c2, h2⟩ := h8
    obtain ⟨rfl, h3⟩ := tt_one hone hi h2
    cases h3
    exact ⟨j, n, cA 3, by rw [List.getElem?_set_self (List.getElem?_eq_some_iff.mp hi).1]⟩) H1 locs1 ls ⟨by rw [← tt_set]; exact p1, by rw [← tt_set]; exact d1⟩ s1 hl)
end TR
