/-! THE CLASS'S SIDE with frames over arrays of numbers -/
theorem tt_fa.transX {K K1 : Nat → Nat} {WA : List Nat} {a b c : va_W} (h : tt_fa K WA a b) (hx : tt_ex K K1) (g : tt_fa K1 WA b c) : tt_fa K WA a c := fun x f z n h9 => g x f (by rw [hx x z]; exact z) (by rw [hx x z]; exact n) (h x f z n h9)
theorem tt_fa.wrX {K K1 : Nat → Nat} {WA : List Nat} {a b c : va_W} (h : tt_fa K WA a b) (hx : tt_ex K K1) {o kn : Nat} (ho : K1 o = kn) (tl : ∀ (q : Nat) (x : (Nat → Int64) ⊕ (Nat → Int32)), q ≠ o → tt_xc b q x → tt_xc c q x) (hm : kn ∈ WA) : tt_fa K WA a c := fun x f z n h9 => tl x f (fun y => n (by rw [← hx x z, y, ho]; exact hm)) (h x f z n h9)
theorem tt_xc.setQ {pl : va_W} {i a n : Nat} {c0 : ClassId} {g : Nat → Option Nat} {e2 : va_E} (hi : pl[i]? = some (a, .inl (c0, n, .inr (.inr (.inr (.inr g)))))) {b : Nat} {x : (Nat → Int64) ⊕ (Nat → Int32)} (h : tt_xc pl b x) : tt_xc (pl.set i (a, e2)) b x := by
  cases x with
  | inl f => obtain ⟨j, n, c0, h1⟩ := h; exact ⟨j, n, c0, by rw [List.getElem?_set_ne (fun z => by subst z; cases hi.symm.trans h1)]; exact h1⟩
  | inr f => obtain ⟨j, n, c0, h1⟩ := h; exact ⟨j, n, c0, by rw [List.getElem?_set_ne (fun z => by subst z; cases hi.symm.trans h1)]; exact h1⟩
section TC
variable {p : Program} {l : Launch} {e : Env} {R : Room} {s : State} {m : MethodId} {args : Array Value} {below : List Frame} {meth : Method} {c : Code}
variable {nL : Nat} {A : Nat → Prop} {Q : State → Prop} {cells slots pc : Nat} {lv : List (Nat × Value)} {st rest : List Value} {cc : ByteArray} {own : String} {ret : Option FieldType} {D : va_G} {cA : Nat → ClassId} {ak : (Nat → Nat) × (Nat → Nat)} {X pl cx wr : va_W} {tk : Nat → tt_K} {Kd : Nat → Nat} {mc ms : Nat}
theorem tl_bast (C : jj_C p l s m args meth c cc nL own ret D cA A ak) (hok : tt_ok tk cA Kd pl) {a kn n : Nat} {t : tt_T} (ha : Kd a = kn) (hn : kn ≠ 0) (htk : tk kn = (1, 0, n, [t])) {i : Int32} {x : Int32} (hin : vp_in i n) (hV : tt_V Kd t (.int (vp_nar .byte x))) (hd : decode cc pc = .ok (.bastore, 1)) (kk : ∀ pl2 : va_W, tt_ok tk cA Kd pl2 → (∀ (b j : Nat) (w : Value), tt_at pl b j w → tt_at pl2 b j w) → (∀ (b : Nat) (x : (Nat → Int64) ⊕ (Nat → Int32)), b ≠ a → tt_xc pl b x → tt_xc pl2 b x) → jj_J p l e R s m args below meth c nL A Q (jj_X D A (X ++ pl2)) cells slots (pc + 1) lv st) : jj_J p l e R s m args below meth c nL A Q (jj_X D A (X ++ pl)) cells slots pc lv (.int x :: .int i :: .ref a :: st) := by
  intro H locs ls hW hS hl
  obtain ⟨j, e9, hi, hE⟩ := hok a (by rw [ha]; exact hn)
  rw [ha, htk] at hE
  obtain ⟨f, rfl, hel⟩ := (show ∃ f : Nat → Int32, e9 = .inl (cA 0, n, .inl f) ∧ ∀ j : Nat, j < n → tt_V Kd t (.int (f j)) from hE)
  have hok2 : tt_ok tk cA Kd (pl.set j (a, .inl (cA 0, n, .inl (upd f i.toNatClampNeg (vp_nar .byte x))))) := hok.set hi (fun _ => by
    rw [ha, htk]
    refine ⟨upd f i.toNatClampNeg (vp_nar .byte x), rfl, fun k hk => ?_⟩
    by_cases h9 : k = i.toNatClampNeg
    · rw [h9]; show tt_V Kd t (.int (if _ then _ else _)); rw [if_pos rfl]; exact hV
    · show tt_V Kd t (.int (if _ then _ else _)); rw [if_neg h9]; exact hel k hk)
  exact va_bast C.1 C.2.1 C.2.2.2.2.2.2.2.1 hW.1 hW.2 hS (X.length + j) 0 (tt_pos hi) rfl hin hd (fun H1 locs1 p1 d1 s1 => kk _ hok2 (fun b j2 w9 h8 => by
    obtain ⟨n1, c1, g1, q1, q2⟩ := h8
    refine ⟨n1, c1, g1, ?_, q2⟩
    have hne : j ≠ n1 := fun z => by subst z; cases hi.symm.trans q1
    rw [List.getElem?_set_ne hne]; exact q1) (fun b f9 hne h8 => tt_xc.set hi hne h8) H1 locs1 ls ⟨by rw [← tt_set]; exact p1, by rw [← tt_set]; exact d1⟩ s1 hl)
theorem tl_last (C : jj_C p l s m args meth c cc nL own ret D cA A ak) (hok : tt_ok tk cA Kd pl) {a kn n : Nat} {t : tt_T} (ha : Kd a = kn) (hn : kn ≠ 0) (htk : tk kn = (2, 2, n, [t])) {i : Int32} {x : Int64} (hin : vp_in i n) (hV : tt_V Kd t (.long x)) (hd : decode cc pc = .ok (.lastore, 1)) (kk : ∀ pl2 : va_W, tt_ok tk cA Kd pl2 → (∀ (b j : Nat) (w : Value), tt_at pl b j w → tt_at pl2 b j w) → (∀ (b : Nat) (x : (Nat → Int64) ⊕ (Nat → Int32)), b ≠ a → tt_xc pl b x → tt_xc pl2 b x) → jj_J p l e R s m args below meth c nL A Q (jj_X D A (X ++ pl2)) cells slots (pc + 1) lv st) : jj_J p l e R s m args below meth c nL A Q (jj_X D A (X ++ pl)) cells slots pc lv (.long x :: .int i :: .ref a :: st) := by
  intro H locs ls hW hS hl
  obtain ⟨j, e9, hi, hE⟩ := hok a (by rw [ha]; exact hn)
  rw [ha, htk] at hE
  obtain ⟨f, rfl, hel⟩ := (show ∃ f : Nat → Int64, e9 = .inl (cA 2, n, .inr (.inl f)) ∧ ∀ j : Nat, j < n → tt_V Kd t (.long (f j)) from hE)
  have hok2 : tt_ok tk cA Kd (pl.set j (a, .inl (cA 2, n, .inr (.inl (vp_updL f i.toNatClampNeg x))))) := hok.set hi (fun _ => by
    rw [ha, htk]
    refine ⟨vp_updL f i.toNatClampNeg x, rfl, fun k hk => ?_⟩
    by_cases h9 : k = i.toNatClampNeg
    · rw [h9]; show tt_V Kd t (.long (if _ then _ else _)); rw [if_pos rfl]; exact hV
    · show tt_V Kd t (.long (if _ then _ else _)); rw [if_neg h9]; exact hel k hk)
  exact va_last C.1 C.2.1 C.2.2.2.2.2.2.2.1 hW.1 hW.2 hS (X.length + j) 2 (tt_pos hi) rfl hin hd (fun H1 locs1 p1 d1 s1 => kk _ hok2 (fun b j2 w9 h8 => by
    obtain ⟨n1, c1, g1, q1, q2⟩ := h8
    refine ⟨n1, c1, g1, ?_, q2⟩
    have hne : j ≠ n1 := fun z => by subst z; cases hi.symm.trans q1
    rw [List.getElem?_set_ne hne]; exact q1) (fun b f9 hne h8 => tt_xc.set hi hne h8) H1 locs1 ls ⟨by rw [← tt_set]; exact p1, by rw [← tt_set]; exact d1⟩ s1 hl)
theorem tl_cast (C : jj_C p l s m args meth c cc nL own ret D cA A ak) (hok : tt_ok tk cA Kd pl) {a kn n : Nat} {t : tt_T} (ha : Kd a = kn) (hn : kn ≠ 0) (htk : tk kn = (1, 1, n, [t])) {i : Int32} {x : Int32} (hin : vp_in i n) (hV : tt_V Kd t (.int (vp_nar .char x))) (hd : decode cc pc = .ok (.castore, 1)) (kk : ∀ pl2 : va_W, tt_ok tk cA Kd pl2 → (∀ (b j : Nat) (w : Value), tt_at pl b j w → tt_at pl2 b j w) → (∀ (b : Nat) (x : (Nat → Int64) ⊕ (Nat → Int32)), b ≠ a → tt_xc pl b x → tt_xc pl2 b x) → jj_J p l e R s m args below meth c nL A Q (jj_X D A (X ++ pl2)) cells slots (pc + 1) lv st) : jj_J p l e R s m args below meth c nL A Q (jj_X D A (X ++ pl)) cells slots pc lv (.int x :: .int i :: .ref a :: st) := by
  intro H locs ls hW hS hl
  obtain ⟨j, e9, hi, hE⟩ := hok a (by rw [ha]; exact hn)
  rw [ha, htk] at hE
  obtain ⟨f, rfl, hel⟩ := (show ∃ f : Nat → Int32, e9 = .inl (cA 1, n, .inl f) ∧ ∀ j : Nat, j < n → tt_V Kd t (.int (f j)) from hE)
  have hok2 : tt_ok tk cA Kd (pl.set j (a, .inl (cA 1, n, .inl (upd f i.toNatClampNeg (vp_nar .char x))))) := hok.set hi (fun _ => by
    rw [ha, htk]
    refine ⟨upd f i.toNatClampNeg (vp_nar .char x), rfl, fun k hk => ?_⟩
    by_cases h9 : k = i.toNatClampNeg
    · rw [h9]; show tt_V Kd t (.int (if _ then _ else _)); rw [if_pos rfl]; exact hV
    · show tt_V Kd t (.int (if _ then _ else _)); rw [if_neg h9]; exact hel k hk)
  exact va_cast C.1 C.2.1 C.2.2.2.2.2.2.2.1 hW.1 hW.2 hS (X.length + j) 1 (tt_pos hi) rfl hin hd (fun H1 locs1 p1 d1 s1 => kk _ hok2 (fun b j2 w9 h8 => by
    obtain ⟨n1, c1, g1, q1, q2⟩ := h8
    refine ⟨n1, c1, g1, ?_, q2⟩
    have hne : j ≠ n1 := fun z => by subst z; cases hi.symm.trans q1
    rw [List.getElem?_set_ne hne]; exact q1) (fun b f9 hne h8 => tt_xc.set hi hne h8) H1 locs1 ls ⟨by rw [← tt_set]; exact p1, by rw [← tt_set]; exact d1⟩ s1 hl)
theorem tl_aast (C : jj_C p l s m args meth c cc nL own ret D cA A ak) (hok : tt_ok tk cA Kd pl) {a kn t0 n : Nat} {t : tt_T} {c0 : ClassId} {Cn : String} (ha : Kd a = kn) (hn : kn ≠ 0) (htk : tk kn = (3, t0, n, [t])) (hty : (jj_ty cA)[t0]? = some (c0, .object Cn)) (hc0 : c0 = cA t0) {v kv ci N9 : Nat} {T9 : u_T} {fts : List tt_T} (hv : Kd v = kv) (hnv : kv ≠ 0) (htv : tk kv = (0, ci, 0, fts)) (hcl : vwCl[ci]? = some (Cn, T9, N9)) {i : Int32} (hin : vp_in i n) (hV : tt_V Kd t (.ref v)) (hd : decode cc pc = .ok (.aastore, 1)) (kk : ∀ pl2 : va_W, tt_ok tk cA Kd pl2 → (∀ (b j : Nat) (w : Value), tt_at pl b j w → tt_at pl2 b j w) → tt_ael pl2 a i.toNatClampNeg (.ref v) → (∀ (b : Nat) (x : (Nat → Int64) ⊕ (Nat → Int32)), tt_xc pl b x → tt_xc pl2 b x) → jj_J p l e R s m args below meth c nL A Q (jj_X D A (X ++ pl2)) cells slots (pc + 1) lv st) : jj_J p l e R s m args below meth c nL A Q (jj_X D A (X ++ pl)) cells slots pc lv (.ref v :: .int i :: .ref a :: st) := by
  intro H locs ls hW hS hl
  obtain ⟨j, e9, hi, hE⟩ := hok a (by rw [ha]; exact hn)
  rw [ha, htk] at hE
  obtain ⟨f, rfl, hel⟩ := (show ∃ f : Nat → Option Nat, e9 = .inl (cA t0, n, .inr (.inr (.inr (.inr f)))) ∧ ∀ j : Nat, j < n → tt_V Kd t (va_rf (f j)) from hE)
  subst hc0
  obtain ⟨jv, e8, hiv, hEv⟩ := hok v (by rw [hv]; exact hnv)
  rw [hv, htv] at hEv
  obtain ⟨fs, rfl, -, -⟩ := (show ∃ fs : List Value, e8 = .inr (ci, fs) ∧ fs.length = fts.length ∧ ∀ (j : Nat) (t : tt_T) (v : Value), fts[j]? = some t → fs[j]? = some v → tt_V Kd t v from hEv)
  have hok2 : tt_ok tk cA Kd (pl.set j (a, .inl (cA t0, n, .inr (.inr (.inr (.inr (va_up f i.toNatClampNeg (some v)))))))) := hok.set hi (fun _ => by
    rw [ha, htk]
    refine ⟨va_up f i.toNatClampNeg (some v), rfl, fun k hk => ?_⟩
    by_cases h9 : k = i.toNatClampNeg
    · subst h9; show tt_V Kd t (va_rf (va_up f i.toNatClampNeg (some v) i.toNatClampNeg)); rw [va_up_self]; exact hV
    · show tt_V Kd t (va_rf (va_up f i.toNatClampNeg (some v) k)); rw [va_up_ne _ _ h9]; exact hel k hk)
  exact va_astq C.1 C.2.1 C.2.2.2.2.2.2.2.1 hW.1 hW.2 hS (X.length + j) t0 (X.length + jv) ci (tt_pos hi) hty (tt_pos hiv) hcl hin hd (fun H1 locs1 p1 d1 s1 => kk _ hok2 (fun b j2 w9 h8 => by
    obtain ⟨n1, c1, g1, q1, q2⟩ := h8
    refine ⟨n1, c1, g1, ?_, q2⟩
    have hne : j ≠ n1 := fun z => by subst z; cases hi.symm.trans q1
    rw [List.getElem?_set_ne hne]; exact q1) ⟨j, n, cA t0, _, by rw [List.getElem?_set_self (List.getElem?_eq_some_iff.mp hi).1], by rw [va_up_self]; rfl⟩ (fun b f9 h8 => tt_xc.setQ hi h8) H1 locs1 ls ⟨by rw [← tt_set]; exact p1, by rw [← tt_set]; exact d1⟩ s1 hl)
theorem tl_caldF (C : jj_C p l s m args meth c cc nL own ret D cA A ak) (hok : tt_ok tk cA Kd pl) {a kn n : Nat} {t : tt_T} (ha : Kd a = kn) (hn : kn ≠ 0) (htk : tk kn = (1, 1, n, [t])) {i : Int32} {f : Nat → Int32} {k : Nat} {v : Int32} (hin : vp_in i n) (hf : tt_ic pl a f) (hk : i.toNatClampNeg = k) (hv : f k = v) (hd : decode cc pc = .ok (.caload, 1)) (kk : jj_J p l e R s m args below meth c nL A Q (jj_X D A (X ++ pl)) cells slots (pc + 1) lv (.int v :: st)) : jj_J p l e R s m args below meth c nL A Q (jj_X D A (X ++ pl)) cells slots pc lv (.int i :: .ref a :: st) := by
  intro H locs ls hW hS hl
  obtain ⟨j, e9, hi, hE⟩ := hok a (by rw [ha]; exact hn)
  rw [ha, htk] at hE
  obtain ⟨g, rfl, hel⟩ := (show ∃ g : Nat → Int32, e9 = .inl (cA 1, n, .inl g) ∧ ∀ j : Nat, j < n → tt_V Kd t (.int (g j)) from hE)
  obtain ⟨j2, n2, c2, h2⟩ := hf
  obtain ⟨rfl, h3⟩ := tt_one hW.2 hi h2
  cases h3
  subst hk; subst hv
  exact jj_cald C (X.length + j) (tt_pos hi) hin rfl hd kk H locs ls hW hS hl
theorem tl_castF (C : jj_C p l s m args meth c cc nL own ret D cA A ak) (hok : tt_ok tk cA Kd pl) {a kn n : Nat} {t : tt_T} (ha : Kd a = kn) (hn : kn ≠ 0) (htk : tk kn = (1, 1, n, [t])) {i : Int32} {x : Int32} {k0 : Nat} (hin : vp_in i n) (hk0 : i.toNatClampNeg = k0) (hV : tt_V Kd t (.int (vp_nar .char x))) (hd : decode cc pc = .ok (.castore, 1)) (kk : ∀ pl2 : va_W, tt_ok tk cA Kd pl2 → (∀ (b j : Nat) (w : Value), tt_at pl b j w → tt_at pl2 b j w) → (∀ (b : Nat) (x : (Nat → Int64) ⊕ (Nat → Int32)), b ≠ a → tt_xc pl b x → tt_xc pl2 b x) → (∀ f : Nat → Int32, tt_ic pl a f → tt_ic pl2 a (upd f k0 (vp_nar .char x))) → jj_J p l e R s m args below meth c nL A Q (jj_X D A (X ++ pl2)) cells slots (pc + 1) lv st) : jj_J p l e R s m args below meth c nL A Q (jj_X D A (X ++ pl)) cells slots pc lv (.int x :: .int i :: .ref a :: st) := by
  intro H locs ls hW hS hl
  obtain ⟨j, e9, hi, hE⟩ := hok a (by rw [ha]; exact hn)
  rw [ha, htk] at hE
  obtain ⟨f, rfl, hel⟩ := (show ∃ f : Nat → Int32, e9 = .inl (cA 1, n, .inl f) ∧ ∀ j : Nat, j < n → tt_V Kd t (.int (f j)) from hE)
  have hok2 : tt_ok tk cA Kd (pl.set j (a, .inl (cA 1, n, .inl (upd f i.toNatClampNeg (vp_nar .char x))))) := hok.set hi (fun _ => by
    rw [ha, htk]
    refine ⟨upd f i.toNatClampNeg (vp_nar .char x), rfl, fun k hk => ?_⟩
    by_cases h9 : k = i.toNatClampNeg
    · rw [h9]; show tt_V Kd t (.int (if _ then _ else _)); rw [if_pos rfl]; exact hV
    · show tt_V Kd t (.int (if _ then _ else _)); rw [if_neg h9]; exact hel k hk)
  have hone := hW.2
  exact va_cast C.1 C.2.1 C.2.2.2.2.2.2.2.1 hW.1 hW.2 hS (X.length + j) 1 (tt_pos hi) rfl hin hd (fun H1 locs1 p1 d1 s1 => kk _ hok2 (fun b j2 w9 h8 => by
    obtain ⟨n1, c1, g1, q1, q2⟩ := h8
    refine ⟨n1, c1, g1, ?_, q2⟩
    have hne : j ≠ n1 := fun z => by subst z; cases hi.symm.trans q1
    rw [List.getElem?_set_ne hne]; exact q1) (fun b f9 hne h8 => tt_xc.set hi hne h8) (fun f9 h8 => by
    obtain ⟨j2, n2, c2, h2⟩ := h8
    obtain ⟨rfl, h3⟩ := tt_one hone hi h2
    cases h3
    subst hk0
    exact ⟨j, n, cA 1, by rw [List.getElem?_set_self (List.getElem?_eq_some_iff.mp hi).1]⟩) H1 locs1 ls ⟨by rw [← tt_set]; exact p1, by rw [← tt_set]; exact d1⟩ s1 hl)
theorem tl_bastF (C : jj_C p l s m args meth c cc nL own ret D cA A ak) (hok : tt_ok tk cA Kd pl) {a kn n : Nat} {t : tt_T} (ha : Kd a = kn) (hn : kn ≠ 0) (htk : tk kn = (1, 0, n, [t])) {i : Int32} {x : Int32} {k0 : Nat} (hin : vp_in i n) (hk0 : i.toNatClampNeg = k0) (hV : tt_V Kd t (.int (vp_nar .byte x))) (hd : decode cc pc = .ok (.bastore, 1)) (kk : ∀ pl2 : va_W, tt_ok tk cA Kd pl2 → (∀ (b j : Nat) (w : Value), tt_at pl b j w → tt_at pl2 b j w) → (∀ (b : Nat) (x : (Nat → Int64) ⊕ (Nat → Int32)), b ≠ a → tt_xc pl b x → tt_xc pl2 b x) → (∀ f : Nat → Int32, tt_ic pl a f → tt_ic pl2 a (upd f k0 (vp_nar .byte x))) → jj_J p l e R s m args below meth c nL A Q (jj_X D A (X ++ pl2)) cells slots (pc + 1) lv st) : jj_J p l e R s m args below meth c nL A Q (jj_X D A (X ++ pl)) cells slots pc lv (.int x :: .int i :: .ref a :: st) := by
  intro H locs ls hW hS hl
  obtain ⟨j, e9, hi, hE⟩ := hok a (by rw [ha]; exact hn)
  rw [ha, htk] at hE
  obtain ⟨f, rfl, hel⟩ := (show ∃ f : Nat → Int32, e9 = .inl (cA 0, n, .inl f) ∧ ∀ j : Nat, j < n → tt_V Kd t (.int (f j)) from hE)
  have hok2 : tt_ok tk cA Kd (pl.set j (a, .inl (cA 0, n, .inl (upd f i.toNatClampNeg (vp_nar .byte x))))) := hok.set hi (fun _ => by
    rw [ha, htk]
    refine ⟨upd f i.toNatClampNeg (vp_nar .byte x), rfl, fun k hk => ?_⟩
    by_cases h9 : k = i.toNatClampNeg
    · rw [h9]; show tt_V Kd t (.int (if _ then _ else _)); rw [if_pos rfl]; exact hV
    · show tt_V Kd t (.int (if _ then _ else _)); rw [if_neg h9]; exact hel k hk)
  have hone := hW.2
  exact va_bast C.1 C.2.1 C.2.2.2.2.2.2.2.1 hW.1 hW.2 hS (X.length + j) 0 (tt_pos hi) rfl hin hd (fun H1 locs1 p1 d1 s1 => kk _ hok2 (fun b j2 w9 h8 => by
    obtain ⟨n1, c1, g1, q1, q2⟩ := h8
    refine ⟨n1, c1, g1, ?_, q2⟩
    have hne : j ≠ n1 := fun z => by subst z; cases hi.symm.trans q1
    rw [List.getElem?_set_ne hne]; exact q1) (fun b f9 hne h8 => tt_xc.set hi hne h8) (fun f9 h8 => by
    obtain ⟨j2, n2, c2, h2⟩ := h8
    obtain ⟨rfl, h3⟩ := tt_one hone hi h2
    cases h3
    subst hk0
    exact ⟨j, n, cA 0, by rw [List.getElem?_set_self (List.getElem?_eq_some_iff.mp hi).1]⟩) H1 locs1 ls ⟨by rw [← tt_set]; exact p1, by rw [← tt_set]; exact d1⟩ s1 hl)
theorem tl_baldF (C : jj_C p l s m args meth c cc nL own ret D cA A ak) (hok : tt_ok tk cA Kd pl) {a kn n : Nat} {t : tt_T} (ha : Kd a = kn) (hn : kn ≠ 0) (htk : tk kn = (1, 0, n, [t])) {i : Int32} {f : Nat → Int32} {k : Nat} {v : Int32} (hin : vp_in i n) (hf : tt_ic pl a f) (hk : i.toNatClampNeg = k) (hv : f k = v) (hd : decode cc pc = .ok (.baload, 1)) (kk : jj_J p l e R s m args below meth c nL A Q (jj_X D A (X ++ pl)) cells slots (pc + 1) lv (.int v :: st)) : jj_J p l e R s m args below meth c nL A Q (jj_X D A (X ++ pl)) cells slots pc lv (.int i :: .ref a :: st) := by
  intro H locs ls hW hS hl
  obtain ⟨j, e9, hi, hE⟩ := hok a (by rw [ha]; exact hn)
  rw [ha, htk] at hE
  obtain ⟨g, rfl, hel⟩ := (show ∃ g : Nat → Int32, e9 = .inl (cA 0, n, .inl g) ∧ ∀ j : Nat, j < n → tt_V Kd t (.int (g j)) from hE)
  obtain ⟨j2, n2, c2, h2⟩ := hf
  obtain ⟨rfl, h3⟩ := tt_one hW.2 hi h2
  cases h3
  subst hk; subst hv
  exact jj_bald C (X.length + j) (tt_pos hi) hin rfl hd kk H locs ls hW hS hl
end TC
