/-! THE T LAYER: worlds of some fixed cells and a pool whose cells fit their kinds -/
/-- the type of a slot: (0, lo, hi) an int, (1, lo, hi) a long, (2, k, _) a reference of kind k, (3, k, _) null or one, else a double -/
abbrev tt_T : Type := Nat × Int × Int
def tt_V (K : Nat → Nat) (t : tt_T) (v : Value) : Prop := match t.1 with
  | 0 => ∃ x : Int32, v = .int x ∧ t.2.1 ≤ x.toInt ∧ x.toInt ≤ t.2.2
  | 1 => ∃ x : Int64, v = .long x ∧ t.2.1 ≤ x.toInt ∧ x.toInt ≤ t.2.2
  | 2 => ∃ a : Nat, v = .ref a ∧ K a = t.2.1.toNat
  | 3 => v = .null ∨ ∃ a : Nat, v = .ref a ∧ K a = t.2.1.toNat
  | _ => ∃ x : UInt64, v = .double x
/-- a kind: (0, class, 0, its slots' types) an object; (1 ints | 2 longs | 3 references, place of the array's class, length, [its elements' type]) an array -/
abbrev tt_K : Type := Nat × Nat × Nat × List tt_T
def tt_E (cA : Nat → ClassId) (K : Nat → Nat) (kd : tt_K) (e : va_E) : Prop := match kd.1 with
  | 0 => ∃ fs : List Value, e = .inr (kd.2.1, fs) ∧ fs.length = kd.2.2.2.length ∧ ∀ (j : Nat) (t : tt_T) (v : Value), kd.2.2.2[j]? = some t → fs[j]? = some v → tt_V K t v
  | 1 => ∃ f : Nat → Int32, e = .inl (cA kd.2.1, kd.2.2.1, .inl f) ∧ ∀ j : Nat, j < kd.2.2.1 → tt_V K (kd.2.2.2.headD (0, 0, 0)) (.int (f j))
  | 2 => ∃ f : Nat → Int64, e = .inl (cA kd.2.1, kd.2.2.1, .inr (.inl f)) ∧ ∀ j : Nat, j < kd.2.2.1 → tt_V K (kd.2.2.2.headD (0, 0, 0)) (.long (f j))
  | _ => ∃ f : Nat → Option Nat, e = .inl (cA kd.2.1, kd.2.2.1, .inr (.inr (.inr (.inr f)))) ∧ ∀ j : Nat, j < kd.2.2.1 → tt_V K (kd.2.2.2.headD (0, 0, 0)) (va_rf (f j))
/-- each address of a kind has a cell of the pool that fits it -/
def tt_ok (tk : Nat → tt_K) (cA : Nat → ClassId) (K : Nat → Nat) (pl : va_W) : Prop := ∀ a : Nat, K a ≠ 0 → ∃ (i : Nat) (e : va_E), pl[i]? = some (a, e) ∧ tt_E cA K (tk (K a)) e
/-- what an object's slot holds -/
def tt_at (pl : va_W) (a j : Nat) (v : Value) : Prop := ∃ (i ci : Nat) (fs : List Value), pl[i]? = some (a, .inr (ci, fs)) ∧ fs[j]? = some v
theorem tt_pos {X pl : va_W} {i : Nat} {q : Nat × va_E} (h : pl[i]? = some q) : (X ++ pl)[X.length + i]? = some q := by
  rw [List.getElem?_append_right (Nat.le_add_right _ _), Nat.add_sub_cancel_left]; exact h
theorem tt_set {X pl : va_W} {i : Nat} {q : Nat × va_E} : (X ++ pl).set (X.length + i) q = X ++ pl.set i q := by
  rw [List.set_append_right _ _ (Nat.le_add_right _ _), Nat.add_sub_cancel_left]
/-- the pool's addresses are apart -/
theorem tt_one {A : Nat → Prop} {X pl : va_W} (hD : va_D A (X ++ pl)) {i j : Nat} {a : Nat} {e f : va_E} (hi : pl[i]? = some (a, e)) (hj : pl[j]? = some (a, f)) : i = j ∧ e = f := by
  have h := hD.1 _ _ _ _ (tt_pos (X := X) hi) (tt_pos (X := X) hj) rfl
  have h2 : i = j := Nat.add_left_cancel h
  subst h2
  exact ⟨rfl, (Prod.mk.inj (Option.some.inj (hi.symm.trans hj))).2⟩
theorem tt_ok.set {tk : Nat → tt_K} {cA : Nat → ClassId} {K : Nat → Nat} {pl : va_W} (hok : tt_ok tk cA K pl) {i a : Nat} {e e2 : va_E} (hi : pl[i]? = some (a, e)) (hE : K a ≠ 0 → tt_E cA K (tk (K a)) e2) : tt_ok tk cA K (pl.set i (a, e2)) := by
  intro b hb
  by_cases h : b = a
  · subst h
    exact ⟨i, e2, by rw [List.getElem?_set_self (List.getElem?_eq_some_iff.mp hi).1], hE hb⟩
  · obtain ⟨j, eb, hj, hEb⟩ := hok b hb
    refine ⟨j, eb, ?_, hEb⟩
    have hij : i ≠ j := fun z => by
      subst z
      exact h (Prod.mk.inj (Option.some.inj (hj.symm.trans hi))).1
    rw [List.getElem?_set_ne hij]; exact hj
theorem tt_at.set {pl : va_W} {i a ci k : Nat} {fs : List Value} {v : Value} (hi : pl[i]? = some (a, .inr (ci, fs))) {b j : Nat} {w : Value} (hne : b ≠ a ∨ j ≠ k) (h : tt_at pl b j w) : tt_at (pl.set i (a, .inr (ci, fs.set k v))) b j w := by
  obtain ⟨n, cn, gs, h1, h2⟩ := h
  by_cases hn : i = n
  · subst hn
    have h3 := Option.some.inj (h1.symm.trans hi)
    cases h3
    refine ⟨i, ci, fs.set k v, by rw [List.getElem?_set_self (List.getElem?_eq_some_iff.mp hi).1], ?_⟩
    rcases hne with h4 | h4
    · exact absurd rfl h4
    · rw [List.getElem?_set_ne (fun z => h4 z.symm)]; exact h2
  · exact ⟨n, cn, gs, by rw [List.getElem?_set_ne hn]; exact h1, h2⟩
theorem tt_vi {K : Nat → Nat} {lo hi : Int} {v : Value} (h : tt_V K (0, lo, hi) v) : ∃ x : Int32, v = .int x ∧ lo ≤ x.toInt ∧ x.toInt ≤ hi := h
theorem tt_vj {K : Nat → Nat} {lo hi : Int} {v : Value} (h : tt_V K (1, lo, hi) v) : ∃ x : Int64, v = .long x ∧ lo ≤ x.toInt ∧ x.toInt ≤ hi := h
theorem tt_vr {K : Nat → Nat} {z u : Int} {v : Value} (h : tt_V K (2, z, u) v) : ∃ a : Nat, v = .ref a ∧ K a = z.toNat := h
theorem tt_vn {K : Nat → Nat} {z u : Int} {v : Value} (h : tt_V K (3, z, u) v) : v = .null ∨ ∃ a : Nat, v = .ref a ∧ K a = z.toNat := h
theorem tt_iv {K : Nat → Nat} {lo hi : Int} {x : Int32} (h1 : lo ≤ x.toInt) (h2 : x.toInt ≤ hi) : tt_V K (0, lo, hi) (.int x) := ⟨x, rfl, h1, h2⟩
theorem tt_ia {K : Nat → Nat} (x : Int32) : tt_V K (0, -2147483648, 2147483647) (.int x) := ⟨x, rfl, by have h := Int32.le_toInt x; show (-2147483648 : Int) ≤ x.toInt; omega, by have h := Int32.toInt_lt x; show x.toInt ≤ (2147483647 : Int); omega⟩
theorem tt_ja {K : Nat → Nat} (x : Int64) : tt_V K (1, -9223372036854775808, 9223372036854775807) (.long x) := ⟨x, rfl, by have h := Int64.le_toInt x; show (-9223372036854775808 : Int) ≤ x.toInt; omega, by have h := Int64.toInt_lt x; show x.toInt ≤ (9223372036854775807 : Int); omega⟩
theorem tt_rv {K : Nat → Nat} {z u : Int} {a : Nat} (h : K a = z.toNat) : tt_V K (2, z, u) (.ref a) := ⟨a, rfl, h⟩
theorem tt_rvn {K : Nat → Nat} {z u : Int} {a : Nat} (h : K a = z.toNat) : tt_V K (3, z, u) (.ref a) := Or.inr ⟨a, rfl, h⟩
theorem tt_nv {K : Nat → Nat} {z u : Int} : tt_V K (3, z, u) .null := Or.inl rfl
theorem tt_inc {x : Int32} {n : Int} (h1 : -2147483648 ≤ x.toInt + n) (h2 : x.toInt + n ≤ 2147483647) : ∃ z : Int32, x + Int32.ofInt n = z ∧ z.toInt = x.toInt + n := by
  refine ⟨_, rfl, ?_⟩
  rw [Int32.toInt_add, Int32.toInt_ofInt, show Int32.size = 2 ^ 32 from rfl, Int.add_bmod_bmod]
  exact Int.bmod_eq_of_le (by omega) (by omega)
theorem tt_iadd {x y : Int32} {a b : Int} (hx : x.toInt = a) (hy : y.toInt = b) (h1 : -2147483648 ≤ a + b) (h2 : a + b ≤ 2147483647) : ∃ z : Int32, x + y = z ∧ z.toInt = a + b := ⟨_, rfl, by rw [Int32.toInt_add, hx, hy]; exact Int.bmod_eq_of_le (by omega) (by omega)⟩
theorem tt_isub {x y : Int32} {a b : Int} (hx : x.toInt = a) (hy : y.toInt = b) (h1 : -2147483648 ≤ a - b) (h2 : a - b ≤ 2147483647) : ∃ z : Int32, x - y = z ∧ z.toInt = a - b := ⟨_, rfl, by rw [Int32.toInt_sub, hx, hy]; exact Int.bmod_eq_of_le (by omega) (by omega)⟩
theorem tt_ladd {x y : Int64} {a b : Int} (hx : x.toInt = a) (hy : y.toInt = b) (h1 : -9223372036854775808 ≤ a + b) (h2 : a + b ≤ 9223372036854775807) : ∃ z : Int64, x + y = z ∧ z.toInt = a + b := ⟨_, rfl, by rw [Int64.toInt_add, hx, hy]; exact Int.bmod_eq_of_le (by omega) (by omega)⟩
theorem tt_lsub {x y : Int64} {a b : Int} (hx : x.toInt = a) (hy : y.toInt = b) (h1 : -9223372036854775808 ≤ a - b) (h2 : a - b ≤ 9223372036854775807) : ∃ z : Int64, x - y = z ∧ z.toInt = a - b := ⟨_, rfl, by rw [Int64.toInt_sub, hx, hy]; exact Int.bmod_eq_of_le (by omega) (by omega)⟩
theorem tt_i2l (x : Int32) : ∃ z : Int64, x.toInt64 = z ∧ z.toInt = x.toInt := ⟨_, rfl, Int32.toInt_toInt64 x⟩
theorem tt_ne {K : Nat → Nat} {a b k j : Nat} (ha : K a = k) (hb : K b = j) (h : k ≠ j) : a ≠ b := fun z => h (by rw [← ha, ← hb, z])
theorem jt_nzpL {y : Int64} (h : 0 < y) : ¬ y = 0 := fun z => by rw [z] at h; exact absurd h (by decide)
theorem jt_nzqL {y : Int64} (h : ¬ y ≤ 0) : ¬ y = 0 := fun z => by rw [z] at h; exact h (by decide)
theorem jt_nzp {y : Int32} (h : 0 < y) : ¬ y = 0 := fun z => by rw [z] at h; exact absurd h (by decide)
theorem jt_nzq {y : Int32} (h : ¬ y ≤ 0) : ¬ y = 0 := fun z => by rw [z] at h; exact h (by decide)
theorem jt_nzi {y : Int32} (h : 0 < y.toInt) : ¬ y = 0 := fun z => by rw [z] at h; exact absurd h (by decide)
/-- one typing goes on in another -/
def tt_ex (K K1 : Nat → Nat) : Prop := ∀ a : Nat, K a ≠ 0 → K1 a = K a
theorem tt_ex.refl (K : Nat → Nat) : tt_ex K K := fun _ _ => rfl
theorem tt_ex.trans {K K1 K2 : Nat → Nat} (h : tt_ex K K1) (g : tt_ex K1 K2) : tt_ex K K2 := fun a n => (g a (by rw [h a n]; exact n)).trans (h a n)
theorem tt_ex.kd {K K1 : Nat → Nat} (h : tt_ex K K1) {a k : Nat} (ha : K a = k) (hk : k ≠ 0) : K1 a = k := (h a (by rw [ha]; exact hk)).trans ha
/-- the frame of a method: what lies outside its write set (kind, slot) stays -/
def tt_fr (K : Nat → Nat) (WS : List (Nat × Nat)) (pl pl1 : va_W) : Prop := ∀ (b j : Nat) (w : Value), K b ≠ 0 → (K b, j) ∉ WS → tt_at pl b j w → tt_at pl1 b j w
theorem tt_fr.refl {K : Nat → Nat} {WS : List (Nat × Nat)} (pl : va_W) : tt_fr K WS pl pl := fun _ _ _ _ _ h => h
theorem tt_fr.trans {K : Nat → Nat} {WS : List (Nat × Nat)} {a b c : va_W} (h : tt_fr K WS a b) (g : tt_fr K WS b c) : tt_fr K WS a c := fun x j w z n h9 => g x j w z n (h x j w z n h9)
theorem tt_fr.transX {K K1 : Nat → Nat} {WS : List (Nat × Nat)} {a b c : va_W} (h : tt_fr K WS a b) (hx : tt_ex K K1) (g : tt_fr K1 WS b c) : tt_fr K WS a c := fun x j w z n h9 => g x j w (by rw [hx x z]; exact z) (by rw [hx x z]; exact n) (h x j w z n h9)
theorem tt_fr.sub {K : Nat → Nat} {WS WT : List (Nat × Nat)} {a b : va_W} (h : tt_fr K WS a b) (hs : ∀ q ∈ WS, q ∈ WT) : tt_fr K WT a b := fun x j w z n h9 => h x j w z (fun y => n (hs _ y)) h9
theorem tt_fr.putX {K K1 : Nat → Nat} {WS : List (Nat × Nat)} {a b : va_W} (h : tt_fr K WS a b) (hx : tt_ex K K1) {o k kn : Nat} (ho : K1 o = kn) {c : va_W} (tr : ∀ (x j : Nat) (w : Value), (x ≠ o ∨ j ≠ k) → tt_at b x j w → tt_at c x j w) (hm : (kn, k) ∈ WS) : tt_fr K WS a c :=
  fun x j w z n h9 => tr x j w (by
    by_cases hx1 : x = o
    · right; intro hj; exact n (by rw [hj, ← hx x z, hx1, ho]; exact hm)
    · exact Or.inl hx1) (h x j w z n h9)
theorem tt_fr.put {K : Nat → Nat} {WS : List (Nat × Nat)} {a b : va_W} (h : tt_fr K WS a b) {o k kn : Nat} (ho : K o = kn) {c : va_W} (tr : ∀ (x j : Nat) (w : Value), (x ≠ o ∨ j ≠ k) → tt_at b x j w → tt_at c x j w) (hm : (kn, k) ∈ WS) : tt_fr K WS a c := h.putX (tt_ex.refl K) ho tr hm
theorem tt_fr.arr {K : Nat → Nat} {WS : List (Nat × Nat)} {a b : va_W} (h : tt_fr K WS a b) {c : va_W} (tr : ∀ (x j : Nat) (w : Value), tt_at b x j w → tt_at c x j w) : tt_fr K WS a c := fun x j w z n h9 => tr x j w (h x j w z n h9)
/-- a fact goes over a callee -/
theorem tt_fr.at {K : Nat → Nat} {WS : List (Nat × Nat)} {a b : va_W} (h : tt_fr K WS a b) {o k j : Nat} {w : Value} (ho : K o = k) (hk : k ≠ 0) (hn : (k, j) ∉ WS) (h9 : tt_at a o j w) : tt_at b o j w := h o j w (by rw [ho]; exact hk) (by rw [ho]; exact hn) h9
theorem tt_narZ {v : Int32} (h1 : 0 ≤ v.toInt) (h2 : v.toInt ≤ 1) : narrow .boolean (.int v) = .int v := by
  have h : v = 0 ∨ v = 1 := by
    rcases (by omega : v.toInt = 0 ∨ v.toInt = 1) with h | h
    · exact Or.inl (Int32.toInt_inj.mp (h.trans (by decide)))
    · exact Or.inr (Int32.toInt_inj.mp (h.trans (by decide)))
  rcases h with rfl | rfl <;> rfl
/-- what an array of references holds at a place -/
def tt_ael (pl : va_W) (a j : Nat) (v : Value) : Prop := ∃ (i n : Nat) (c0 : ClassId) (f : Nat → Option Nat), pl[i]? = some (a, .inl (c0, n, .inr (.inr (.inr (.inr f))))) ∧ va_rf (f j) = v
section TT
variable {p : Program} {l : Launch} {e : Env} {R : Room} {s : State} {m : MethodId} {args : Array Value} {below : List Frame} {meth : Method} {c : Code}
variable {nL : Nat} {A : Nat → Prop} {Q : State → Prop} {cells slots pc : Nat} {lv : List (Nat × Value)} {st rest : List Value} {cc : ByteArray} {own : String} {ret : Option FieldType} {D : va_G} {cA : Nat → ClassId} {ak : (Nat → Nat) × (Nat → Nat)} {X pl cx wr : va_W} {tk : Nat → tt_K} {Kd : Nat → Nat} {mc ms : Nat}
/-- a field of an object of a kind: some value of its type, which it holds from now on -/
theorem tt_get (C : jj_C p l s m args meth c cc nL own ret D cA A ak) (hok : tt_ok tk cA Kd pl) {a kn ci index : Nat} {Cn : String} {T : u_T} {N : Nat} {ty : Nat → FieldType} (K : jj_K ci Cn T N ty) (k : Nat) (hk : k < N) (hw : Cond.fieldLink own index (T k).1 (T k).2.1 (T k).2.2.1 ∈ jj_G) {fts : List tt_T} {t : tt_T} (ha : Kd a = kn) (hn : kn ≠ 0) (htk : tk kn = (0, ci, 0, fts)) (ht : fts[k]? = some t) (hd : decode cc pc = .ok (.getfield index, 3)) (kk : ∀ v : Value, tt_V Kd t v → tt_at pl a k v → jj_J p l e R s m args below meth c nL A Q (jj_X D A (X ++ pl)) cells slots (pc + 3) lv (v :: st)) : jj_J p l e R s m args below meth c nL A Q (jj_X D A (X ++ pl)) cells slots pc lv (.ref a :: st) := by
  intro H locs ls hW hS hl
  obtain ⟨i, e9, hi, hE⟩ := hok a (by rw [ha]; exact hn)
  rw [ha, htk] at hE
  obtain ⟨fs, rfl, hlen, hty⟩ := (show ∃ fs : List Value, e9 = .inr (ci, fs) ∧ fs.length = fts.length ∧ ∀ (j : Nat) (t : tt_T) (v : Value), fts[j]? = some t → fs[j]? = some v → tt_V Kd t v from hE)
  have hkl : k < fs.length := by rw [hlen]; exact (List.getElem?_eq_some_iff.mp ht).1
  have hv : fs[k]? = some fs[k] := List.getElem?_eq_getElem hkl
  exact jj_get C K k hk hw (X.length + i) (tt_pos hi) hv hd (kk _ (hty k t _ ht hv) ⟨i, ci, fs, hi, hv⟩) H locs ls hW hS hl
/-- .. a value that is known -/
theorem tt_getF (C : jj_C p l s m args meth c cc nL own ret D cA A ak) (hok : tt_ok tk cA Kd pl) {a kn ci index : Nat} {Cn : String} {T : u_T} {N : Nat} {ty : Nat → FieldType} (K : jj_K ci Cn T N ty) (k : Nat) (hk : k < N) (hw : Cond.fieldLink own index (T k).1 (T k).2.1 (T k).2.2.1 ∈ jj_G) {fts : List tt_T} {t : tt_T} (ha : Kd a = kn) (hn : kn ≠ 0) (htk : tk kn = (0, ci, 0, fts)) (ht : fts[k]? = some t) {v : Value} (hf : tt_at pl a k v) (hd : decode cc pc = .ok (.getfield index, 3)) (kk : jj_J p l e R s m args below meth c nL A Q (jj_X D A (X ++ pl)) cells slots (pc + 3) lv (v :: st)) : jj_J p l e R s m args below meth c nL A Q (jj_X D A (X ++ pl)) cells slots pc lv (.ref a :: st) := by
  intro H locs ls hW hS hl
  obtain ⟨i, e9, hi, hE⟩ := hok a (by rw [ha]; exact hn)
  rw [ha, htk] at hE
  obtain ⟨fs, rfl, hlen, hty⟩ := (show ∃ fs : List Value, e9 = .inr (ci, fs) ∧ fs.length = fts.length ∧ ∀ (j : Nat) (t : tt_T) (v : Value), fts[j]? = some t → fs[j]? = some v → tt_V Kd t v from hE)
  have hkl : k < fs.length := by rw [hlen]; exact (List.getElem?_eq_some_iff.mp ht).1
  obtain ⟨i2, c2, gs, h2, hv⟩ := hf
  obtain ⟨rfl, h3⟩ := tt_one hW.2 hi h2
  cases h3
  exact jj_get C K k hk hw (X.length + i) (tt_pos hi) hv hd kk H locs ls hW hS hl
/-- a field of an object of a kind is written -/
theorem tt_put (C : jj_C p l s m args meth c cc nL own ret D cA A ak) (hok : tt_ok tk cA Kd pl) {a kn ci index : Nat} {Cn : String} {T : u_T} {N : Nat} {ty : Nat → FieldType} (K : jj_K ci Cn T N ty) (k : Nat) (hk : k < N) (hw : Cond.fieldLink own index (T k).1 (T k).2.1 (T k).2.2.1 ∈ jj_G) {fts : List tt_T} {t : tt_T} (ha : Kd a = kn) (hn : kn ≠ 0) (htk : tk kn = (0, ci, 0, fts)) (ht : fts[k]? = some t) (hfin : (T k).2.2.2 = false) {v : Value} (hV : tt_V Kd t v) (hnar : narrow (ty k) v = v) (hfit : fits (ty k) v = true) (hd : decode cc pc = .ok (.putfield index, 3)) (kk : ∀ pl2 : va_W, tt_ok tk cA Kd pl2 → (∀ (b j : Nat) (w : Value), (b ≠ a ∨ j ≠ k) → tt_at pl b j w → tt_at pl2 b j w) → tt_at pl2 a k v → jj_J p l e R s m args below meth c nL A Q (jj_X D A (X ++ pl2)) cells slots (pc + 3) lv st) : jj_J p l e R s m args below meth c nL A Q (jj_X D A (X ++ pl)) cells slots pc lv (v :: .ref a :: st) := by
  intro H locs ls hW hS hl
  obtain ⟨i, e9, hi, hE⟩ := hok a (by rw [ha]; exact hn)
  rw [ha, htk] at hE
  obtain ⟨fs, rfl, hlen, hty⟩ := (show ∃ fs : List Value, e9 = .inr (ci, fs) ∧ fs.length = fts.length ∧ ∀ (j : Nat) (t : tt_T) (v : Value), fts[j]? = some t → fs[j]? = some v → tt_V Kd t v from hE)
  have hkl : k < fs.length := by rw [hlen]; exact (List.getElem?_eq_some_iff.mp ht).1
  have hok2 : tt_ok tk cA Kd (pl.set i (a, .inr (ci, fs.set k v))) := hok.set hi (fun _ => by
    rw [ha, htk]
    refine ⟨fs.set k v, rfl, by rw [List.length_set]; exact hlen, fun j t2 v2 h1 h2 => ?_⟩
    by_cases hj : k = j
    · subst hj
      rw [List.getElem?_set_self hkl] at h2
      cases h2
      rw [show t2 = t from Option.some.inj (h1.symm.trans ht)]
      exact hV
    · rw [List.getElem?_set_ne hj] at h2
      exact hty j t2 v2 h1 h2)
  exact va_put (Ts := jj_G) C.1 C.2.1 C.2.2.2.2.2.1 K.2.1 ty K.2.2.1 K.2.2.2 C.2.2.2.2.1 C.2.2.2.2.2.2.2.1 hW.1 hW.2 hS (X.length + i) (tt_pos hi) K.1 k hk (C.2.2.2.2.2.1 _ hw) (fun _ h9 => h9) hfin (K.2.2.1 k hk) hnar hfit hkl hd (fun H1 locs1 p1 d1 s1 => kk _ hok2 (fun b j w h9 h8 => tt_at.set hi h9 h8) ⟨i, ci, fs.set k v, by rw [List.getElem?_set_self (List.getElem?_eq_some_iff.mp hi).1], by rw [List.getElem?_set_self hkl]⟩ H1 locs1 ls ⟨by rw [← tt_set]; exact p1, by rw [← tt_set]; exact d1⟩ s1 hl)
theorem tt_lald (C : jj_C p l s m args meth c cc nL own ret D cA A ak) (hok : tt_ok tk cA Kd pl) {a kn n : Nat} {t : tt_T} (ha : Kd a = kn) (hn : kn ≠ 0) (htk : tk kn = (2, 2, n, [t])) {i : Int32} (hin : vp_in i n) (hd : decode cc pc = .ok (.laload, 1)) (kk : ∀ v : Int64, tt_V Kd t (.long v) → jj_J p l e R s m args below meth c nL A Q (jj_X D A (X ++ pl)) cells slots (pc + 1) lv (.long v :: st)) : jj_J p l e R s m args below meth c nL A Q (jj_X D A (X ++ pl)) cells slots pc lv (.int i :: .ref a :: st) := by
  intro H locs ls hW hS hl
  obtain ⟨j, e9, hi, hE⟩ := hok a (by rw [ha]; exact hn)
  rw [ha, htk] at hE
  obtain ⟨f, rfl, hel⟩ := (show ∃ f : Nat → Int64, e9 = .inl (cA 2, n, .inr (.inl f)) ∧ ∀ j : Nat, j < n → tt_V Kd t (.long (f j)) from hE)
  exact jj_lald C (X.length + j) (tt_pos hi) hin rfl hd (kk _ (hel _ (Nat.lt_of_not_le fun h9 => hin (Or.inr h9)))) H locs ls hW hS hl
theorem tt_bald (C : jj_C p l s m args meth c cc nL own ret D cA A ak) (hok : tt_ok tk cA Kd pl) {a kn n : Nat} {t : tt_T} (ha : Kd a = kn) (hn : kn ≠ 0) (htk : tk kn = (1, 0, n, [t])) {i : Int32} (hin : vp_in i n) (hd : decode cc pc = .ok (.baload, 1)) (kk : ∀ v : Int32, tt_V Kd t (.int v) → jj_J p l e R s m args below meth c nL A Q (jj_X D A (X ++ pl)) cells slots (pc + 1) lv (.int v :: st)) : jj_J p l e R s m args below meth c nL A Q (jj_X D A (X ++ pl)) cells slots pc lv (.int i :: .ref a :: st) := by
  intro H locs ls hW hS hl
  obtain ⟨j, e9, hi, hE⟩ := hok a (by rw [ha]; exact hn)
  rw [ha, htk] at hE
  obtain ⟨f, rfl, hel⟩ := (show ∃ f : Nat → Int32, e9 = .inl (cA 0, n, .inl f) ∧ ∀ j : Nat, j < n → tt_V Kd t (.int (f j)) from hE)
  exact jj_bald C (X.length + j) (tt_pos hi) hin rfl hd (kk _ (hel _ (Nat.lt_of_not_le fun h9 => hin (Or.inr h9)))) H locs ls hW hS hl
theorem tt_cald (C : jj_C p l s m args meth c cc nL own ret D cA A ak) (hok : tt_ok tk cA Kd pl) {a kn n : Nat} {t : tt_T} (ha : Kd a = kn) (hn : kn ≠ 0) (htk : tk kn = (1, 1, n, [t])) {i : Int32} (hin : vp_in i n) (hd : decode cc pc = .ok (.caload, 1)) (kk : ∀ v : Int32, tt_V Kd t (.int v) → jj_J p l e R s m args below meth c nL A Q (jj_X D A (X ++ pl)) cells slots (pc + 1) lv (.int v :: st)) : jj_J p l e R s m args below meth c nL A Q (jj_X D A (X ++ pl)) cells slots pc lv (.int i :: .ref a :: st) := by
  intro H locs ls hW hS hl
  obtain ⟨j, e9, hi, hE⟩ := hok a (by rw [ha]; exact hn)
  rw [ha, htk] at hE
  obtain ⟨f, rfl, hel⟩ := (show ∃ f : Nat → Int32, e9 = .inl (cA 1, n, .inl f) ∧ ∀ j : Nat, j < n → tt_V Kd t (.int (f j)) from hE)
  exact jj_cald C (X.length + j) (tt_pos hi) hin rfl hd (kk _ (hel _ (Nat.lt_of_not_le fun h9 => hin (Or.inr h9)))) H locs ls hW hS hl
theorem tt_zald (C : jj_C p l s m args meth c cc nL own ret D cA A ak) (hok : tt_ok tk cA Kd pl) {a kn n : Nat} {t : tt_T} (ha : Kd a = kn) (hn : kn ≠ 0) (htk : tk kn = (1, 3, n, [t])) {i : Int32} (hin : vp_in i n) (hd : decode cc pc = .ok (.baload, 1)) (kk : ∀ v : Int32, tt_V Kd t (.int v) → jj_J p l e R s m args below meth c nL A Q (jj_X D A (X ++ pl)) cells slots (pc + 1) lv (.int v :: st)) : jj_J p l e R s m args below meth c nL A Q (jj_X D A (X ++ pl)) cells slots pc lv (.int i :: .ref a :: st) := by
  intro H locs ls hW hS hl
  obtain ⟨j, e9, hi, hE⟩ := hok a (by rw [ha]; exact hn)
  rw [ha, htk] at hE
  obtain ⟨f, rfl, hel⟩ := (show ∃ f : Nat → Int32, e9 = .inl (cA 3, n, .inl f) ∧ ∀ j : Nat, j < n → tt_V Kd t (.int (f j)) from hE)
  exact jj_zald C (X.length + j) (tt_pos hi) hin rfl hd (kk _ (hel _ (Nat.lt_of_not_le fun h9 => hin (Or.inr h9)))) H locs ls hW hS hl
theorem tt_last (C : jj_C p l s m args meth c cc nL own ret D cA A ak) (hok : tt_ok tk cA Kd pl) {a kn n : Nat} {t : tt_T} (ha : Kd a = kn) (hn : kn ≠ 0) (htk : tk kn = (2, 2, n, [t])) {i : Int32} {x : Int64} (hin : vp_in i n) (hV : tt_V Kd t (.long x)) (hd : decode cc pc = .ok (.lastore, 1)) (kk : ∀ pl2 : va_W, tt_ok tk cA Kd pl2 → (∀ (b j : Nat) (w : Value), tt_at pl b j w → tt_at pl2 b j w) → jj_J p l e R s m args below meth c nL A Q (jj_X D A (X ++ pl2)) cells slots (pc + 1) lv st) : jj_J p l e R s m args below meth c nL A Q (jj_X D A (X ++ pl)) cells slots pc lv (.long x :: .int i :: .ref a :: st) := by
  intro H locs ls hW hS hl
  obtain ⟨j, e9, hi, hE⟩ := hok a (by rw [ha]; exact hn)
  rw [ha, htk] at hE
  obtain ⟨f, rfl, hel⟩ := (show ∃ f : Nat → Int64, e9 = .inl (cA 2, n, .inr (.inl f)) ∧ ∀ j : Nat, j < n → tt_V Kd t (.long (f j)) from hE)
  have hok2 : tt_ok tk cA Kd (pl.set j (a, .inl (cA 2, n, .inr (.inl (vp_updL f i.toNatClampNeg x))))) := hok.set hi (fun _ => by
    rw [ha, htk]
    refine ⟨vp_updL f i.toNatClampNeg x, rfl, fun k hk => ?_⟩
    by_cases h9 : k = i.toNatClampNeg
    · rw [h9]; show tt_V Kd t (.long (if _ then _ else _)); rw [if_pos rfl]; exact hV
    · show tt_V Kd t (.long (if _ then _ else _)); rw [if_neg h9]; exact hel k hk)
  exact va_last C.1 C.2.1 C.2.2.2.2.2.2.2.1 hW.1 hW.2 hS (X.length + j) 2 (tt_pos hi) rfl hin hd (fun H1 locs1 p1 d1 s1 => kk _ hok2 (fun b j2 w9 h8 => by
    obtain ⟨n1, c1, g1, q1, q2⟩ := h8
    refine ⟨n1, c1, g1, ?_, q2⟩
    have hne : j ≠ n1 := fun z => by subst z; cases hi.symm.trans q1
    rw [List.getElem?_set_ne hne]; exact q1) H1 locs1 ls ⟨by rw [← tt_set]; exact p1, by rw [← tt_set]; exact d1⟩ s1 hl)
theorem tt_bast (C : jj_C p l s m args meth c cc nL own ret D cA A ak) (hok : tt_ok tk cA Kd pl) {a kn n : Nat} {t : tt_T} (ha : Kd a = kn) (hn : kn ≠ 0) (htk : tk kn = (1, 0, n, [t])) {i : Int32} {x : Int32} (hin : vp_in i n) (hV : tt_V Kd t (.int (vp_nar .byte x))) (hd : decode cc pc = .ok (.bastore, 1)) (kk : ∀ pl2 : va_W, tt_ok tk cA Kd pl2 → (∀ (b j : Nat) (w : Value), tt_at pl b j w → tt_at pl2 b j w) → jj_J p l e R s m args below meth c nL A Q (jj_X D A (X ++ pl2)) cells slots (pc + 1) lv st) : jj_J p l e R s m args below meth c nL A Q (jj_X D A (X ++ pl)) cells slots pc lv (.int x :: .int i :: .ref a :: st) := by
  intro H locs ls hW hS hl
  obtain ⟨j, e9, hi, hE⟩ := hok a (by rw [ha]; exact hn)
  rw [ha, htk] at hE
  obtain ⟨f, rfl, hel⟩ := (show ∃ f : Nat → Int32, e9 = .inl (cA 0, n, .inl f) ∧ ∀ j : Nat, j < n → tt_V Kd t (.int (f j)) from hE)
  have hok2 : tt_ok tk cA Kd (pl.set j (a, .inl (cA 0, n, .inl (upd f i.toNatClampNeg (vp_nar .byte x))))) := hok.set hi (fun _ => by
    rw [ha, htk]
    refine ⟨upd f i.toNatClampNeg (vp_nar .byte x), rfl, fun k hk => ?_⟩
    by_cases h9 : k = i.toNatClampNeg
    · rw [h9]; show tt_V Kd t (.int (if _ then _ else _)); rw [if_pos rfl]; exact hV
    · show tt_V Kd t (.int (if _ then _ else _)); rw [if_neg h9]; exact hel k hk)
  exact va_bast C.1 C.2.1 C.2.2.2.2.2.2.2.1 hW.1 hW.2 hS (X.length + j) 0 (tt_pos hi) rfl hin hd (fun H1 locs1 p1 d1 s1 => kk _ hok2 (fun b j2 w9 h8 => by
    obtain ⟨n1, c1, g1, q1, q2⟩ := h8
    refine ⟨n1, c1, g1, ?_, q2⟩
    have hne : j ≠ n1 := fun z => by subst z; cases hi.symm.trans q1
    rw [List.getElem?_set_ne hne]; exact q1) H1 locs1 ls ⟨by rw [← tt_set]; exact p1, by rw [← tt_set]; exact d1⟩ s1 hl)
theorem tt_cast (C : jj_C p l s m args meth c cc nL own ret D cA A ak) (hok : tt_ok tk cA Kd pl) {a kn n : Nat} {t : tt_T} (ha : Kd a = kn) (hn : kn ≠ 0) (htk : tk kn = (1, 1, n, [t])) {i : Int32} {x : Int32} (hin : vp_in i n) (hV : tt_V Kd t (.int (vp_nar .char x))) (hd : decode cc pc = .ok (.castore, 1)) (kk : ∀ pl2 : va_W, tt_ok tk cA Kd pl2 → (∀ (b j : Nat) (w : Value), tt_at pl b j w → tt_at pl2 b j w) → jj_J p l e R s m args below meth c nL A Q (jj_X D A (X ++ pl2)) cells slots (pc + 1) lv st) : jj_J p l e R s m args below meth c nL A Q (jj_X D A (X ++ pl)) cells slots pc lv (.int x :: .int i :: .ref a :: st) := by
  intro H locs ls hW hS hl
  obtain ⟨j, e9, hi, hE⟩ := hok a (by rw [ha]; exact hn)
  rw [ha, htk] at hE
  obtain ⟨f, rfl, hel⟩ := (show ∃ f : Nat → Int32, e9 = .inl (cA 1, n, .inl f) ∧ ∀ j : Nat, j < n → tt_V Kd t (.int (f j)) from hE)
  have hok2 : tt_ok tk cA Kd (pl.set j (a, .inl (cA 1, n, .inl (upd f i.toNatClampNeg (vp_nar .char x))))) := hok.set hi (fun _ => by
    rw [ha, htk]
    refine ⟨upd f i.toNatClampNeg (vp_nar .char x), rfl, fun k hk => ?_⟩
    by_cases h9 : k = i.toNatClampNeg
    · rw [h9]; show tt_V Kd t (.int (if _ then _ else _)); rw [if_pos rfl]; exact hV
    · show tt_V Kd t (.int (if _ then _ else _)); rw [if_neg h9]; exact hel k hk)
  exact va_cast C.1 C.2.1 C.2.2.2.2.2.2.2.1 hW.1 hW.2 hS (X.length + j) 1 (tt_pos hi) rfl hin hd (fun H1 locs1 p1 d1 s1 => kk _ hok2 (fun b j2 w9 h8 => by
    obtain ⟨n1, c1, g1, q1, q2⟩ := h8
    refine ⟨n1, c1, g1, ?_, q2⟩
    have hne : j ≠ n1 := fun z => by subst z; cases hi.symm.trans q1
    rw [List.getElem?_set_ne hne]; exact q1) H1 locs1 ls ⟨by rw [← tt_set]; exact p1, by rw [← tt_set]; exact d1⟩ s1 hl)
/-- an element of an array of references of a kind -/
theorem tt_aald (C : jj_C p l s m args meth c cc nL own ret D cA A ak) (hok : tt_ok tk cA Kd pl) {a kn t0 n : Nat} {t : tt_T} {c0 : ClassId} {Cn : String} (ha : Kd a = kn) (hn : kn ≠ 0) (htk : tk kn = (3, t0, n, [t])) (hty : (jj_ty cA)[t0]? = some (c0, .object Cn)) (hc0 : c0 = cA t0) {i : Int32} (hin : vp_in i n) (hd : decode cc pc = .ok (.aaload, 1)) (kk : ∀ v : Value, tt_V Kd t v → jj_J p l e R s m args below meth c nL A Q (jj_X D A (X ++ pl)) cells slots (pc + 1) lv (v :: st)) : jj_J p l e R s m args below meth c nL A Q (jj_X D A (X ++ pl)) cells slots pc lv (.int i :: .ref a :: st) := by
  intro H locs ls hW hS hl
  obtain ⟨j, e9, hi, hE⟩ := hok a (by rw [ha]; exact hn)
  rw [ha, htk] at hE
  obtain ⟨f, rfl, hel⟩ := (show ∃ f : Nat → Option Nat, e9 = .inl (cA t0, n, .inr (.inr (.inr (.inr f)))) ∧ ∀ j : Nat, j < n → tt_V Kd t (va_rf (f j)) from hE)
  subst hc0
  exact jj_aald C (X.length + j) t0 hty (tt_pos hi) hin rfl hd (kk _ (hel _ (Nat.lt_of_not_le fun h9 => hin (Or.inr h9)))) H locs ls hW hS hl
theorem tt_aaldN (C : jj_C p l s m args meth c cc nL own ret D cA A ak) (hok : tt_ok tk cA Kd pl) {a kn t0 n : Nat} {t : tt_T} {c0 : ClassId} {Cn : String} (ha : Kd a = kn) (hn : kn ≠ 0) (htk : tk kn = (3, t0, n, [t])) (hty : (jj_ty cA)[t0]? = some (c0, .object Cn)) (hc0 : c0 = cA t0) {i : Int32} (hin : vp_in i n) (hd : decode cc pc = .ok (.aaload, 1)) (kk : ∀ v : Value, tt_V Kd t v → tt_ael pl a i.toNatClampNeg v → jj_J p l e R s m args below meth c nL A Q (jj_X D A (X ++ pl)) cells slots (pc + 1) lv (v :: st)) : jj_J p l e R s m args below meth c nL A Q (jj_X D A (X ++ pl)) cells slots pc lv (.int i :: .ref a :: st) := by
  intro H locs ls hW hS hl
  obtain ⟨j, e9, hi, hE⟩ := hok a (by rw [ha]; exact hn)
  rw [ha, htk] at hE
  obtain ⟨f, rfl, hel⟩ := (show ∃ f : Nat → Option Nat, e9 = .inl (cA t0, n, .inr (.inr (.inr (.inr f)))) ∧ ∀ j : Nat, j < n → tt_V Kd t (va_rf (f j)) from hE)
  subst hc0
  exact jj_aald C (X.length + j) t0 hty (tt_pos hi) hin rfl hd (kk _ (hel _ (Nat.lt_of_not_le fun h9 => hin (Or.inr h9))) ⟨j, n, cA t0, f, hi, rfl⟩) H locs ls hW hS hl
theorem tt_aaldF (C : jj_C p l s m args meth c cc nL own ret D cA A ak) (hok : tt_ok tk cA Kd pl) {a kn t0 n : Nat} {t : tt_T} {c0 : ClassId} {Cn : String} (ha : Kd a = kn) (hn : kn ≠ 0) (htk : tk kn = (3, t0, n, [t])) (hty : (jj_ty cA)[t0]? = some (c0, .object Cn)) (hc0 : c0 = cA t0) {i : Int32} {v : Value} (hin : vp_in i n) (hf : tt_ael pl a i.toNatClampNeg v) (hd : decode cc pc = .ok (.aaload, 1)) (kk : jj_J p l e R s m args below meth c nL A Q (jj_X D A (X ++ pl)) cells slots (pc + 1) lv (v :: st)) : jj_J p l e R s m args below meth c nL A Q (jj_X D A (X ++ pl)) cells slots pc lv (.int i :: .ref a :: st) := by
  intro H locs ls hW hS hl
  obtain ⟨j, e9, hi, hE⟩ := hok a (by rw [ha]; exact hn)
  rw [ha, htk] at hE
  obtain ⟨f, rfl, hel⟩ := (show ∃ f : Nat → Option Nat, e9 = .inl (cA t0, n, .inr (.inr (.inr (.inr f)))) ∧ ∀ j : Nat, j < n → tt_V Kd t (va_rf (f j)) from hE)
  subst hc0
  obtain ⟨j2, n2, c2, g, h2, hv⟩ := hf
  obtain ⟨rfl, h3⟩ := tt_one hW.2 hi h2
  cases h3
  subst hv
  exact jj_aald C (X.length + j) t0 hty (tt_pos hi) hin rfl hd kk H locs ls hW hS hl
theorem tt_aast (C : jj_C p l s m args meth c cc nL own ret D cA A ak) (hok : tt_ok tk cA Kd pl) {a kn t0 n : Nat} {t : tt_T} {c0 : ClassId} {Cn : String} (ha : Kd a = kn) (hn : kn ≠ 0) (htk : tk kn = (3, t0, n, [t])) (hty : (jj_ty cA)[t0]? = some (c0, .object Cn)) (hc0 : c0 = cA t0) {v kv ci N9 : Nat} {T9 : u_T} {fts : List tt_T} (hv : Kd v = kv) (hnv : kv ≠ 0) (htv : tk kv = (0, ci, 0, fts)) (hcl : vwCl[ci]? = some (Cn, T9, N9)) {i : Int32} (hin : vp_in i n) (hV : tt_V Kd t (.ref v)) (hd : decode cc pc = .ok (.aastore, 1)) (kk : ∀ pl2 : va_W, tt_ok tk cA Kd pl2 → (∀ (b j : Nat) (w : Value), tt_at pl b j w → tt_at pl2 b j w) → tt_ael pl2 a i.toNatClampNeg (.ref v) → jj_J p l e R s m args below meth c nL A Q (jj_X D A (X ++ pl2)) cells slots (pc + 1) lv st) : jj_J p l e R s m args below meth c nL A Q (jj_X D A (X ++ pl)) cells slots pc lv (.ref v :: .int i :: .ref a :: st) := by
  intro H locs ls hW hS hl
  obtain ⟨j, e9, hi, hE⟩ := hok a (by rw [ha]; exact hn)
  rw [ha, htk] at hE
  obtain ⟨f, rfl, hel⟩ := (show ∃ f : Nat → Option Nat, e9 = .inl (cA t0, n, .inr (.inr (.inr (.inr f)))) ∧ ∀ j : Nat, j < n → tt_V Kd t (va_rf (f j)) from hE)
  subst hc0
  obtain ⟨jv, e8, hiv, hEv⟩ := hok v (by rw [hv]; exact hnv)
  rw [hv, htv] at hEv
  obtain ⟨fs, rfl, -, -⟩ := (show ∃ fs : List Value, e8 = .inr (ci, fs) ∧ fs.length = fts.length ∧ ∀ (j : Nat) (t : tt_T) (v : Value), fts[j]? = some t → fs[j]? = some v → tt_V Kd t v from hEv)
  have hok2 : tt_ok tk cA Kd (pl.set j (a, .inl (cA t0, n, .inr (.inr (.inr (.inr (va_up f i.toNatClampNeg (some v)))))))) := hok.set hi (fun _ => by
    rw [ha, htk]
    refine ⟨va_up f i.toNatClampNeg (some v), rfl, fun k hk => ?_⟩
    by_cases h9 : k = i.toNatClampNeg
    · subst h9; show tt_V Kd t (va_rf (va_up f i.toNatClampNeg (some v) i.toNatClampNeg)); rw [va_up_self]; exact hV
    · show tt_V Kd t (va_rf (va_up f i.toNatClampNeg (some v) k)); rw [va_up_ne _ _ h9]; exact hel k hk)
  exact va_astq C.1 C.2.1 C.2.2.2.2.2.2.2.1 hW.1 hW.2 hS (X.length + j) t0 (X.length + jv) ci (tt_pos hi) hty (tt_pos hiv) hcl hin hd (fun H1 locs1 p1 d1 s1 => kk _ hok2 (fun b j2 w9 h8 => by
    obtain ⟨n1, c1, g1, q1, q2⟩ := h8
    refine ⟨n1, c1, g1, ?_, q2⟩
    have hne : j ≠ n1 := fun z => by subst z; cases hi.symm.trans q1
    rw [List.getElem?_set_ne hne]; exact q1) ⟨j, n, cA t0, _, by rw [List.getElem?_set_self (List.getElem?_eq_some_iff.mp hi).1], by rw [va_up_self]; rfl⟩ H1 locs1 ls ⟨by rw [← tt_set]; exact p1, by rw [← tt_set]; exact d1⟩ s1 hl)
/-- outcomes of a callee that had the pool: its fixed cells, then the pool -/
abbrev tt_O (O : va_W → va_W → Option Value → Prop) : va_W → Option Value → Prop := fun w r => ∃ rx pl1 : va_W, w = rx ++ pl1 ∧ O rx pl1 r
abbrev tt_OX (O : String → va_W → va_W → Prop) : String → va_W → Prop := fun E w => ∃ rx pl1 : va_W, w = rx ++ pl1 ∧ O E rx pl1
theorem tt_pre (C : jj_C p l s m args meth c cc nL own ret D cA A ak) {H : Heap} {locs : List Loc} (hW : jj_X D A (X ++ pl) H) (hS : va_S A s.heap H locs) (isC : List Nat) (hC : isC.map (fun i => X[i]?) = cx.map some) (hnC : va_nd isC = true) (As : List Value) : ∀ U : State, U.heap = H → s.WarmedH U.vm → jj_p D cA ak (cx ++ pl) H.size As As.toArray U := by
  intro U hU hWm
  have hF := va_freeP hW.2 hS C.2.2.2.2.2.2.2.2.1 isC hC
  have hB := (C.2.2.2.2.2.2.2.2.2.2.kept (H1 := H) hS.2.1).narrow hF
  refine ⟨rfl, by rw [hU], by rw [hU]; exact hW.1.part isC hC, va_K.moved hWm.alike C.2.2.2.2.2.2.2.1, (hW.2.part isC hnC hC).weaken (fun _ _ _ _ => trivial), ?_⟩
  rw [hU]
  exact jj_B.warm hWm hB
theorem tt_run (C : jj_C p l s m args meth c cc nL own ret D cA A ak) {O2 : va_W → va_W → Option Value → Prop} {OX2 : String → va_W → va_W → Prop} {H : Heap} {locs : List Loc} {ls : Array Slot} {a0 : Array Value} (hW : jj_X D A (X ++ pl) H) (hS : va_S A s.heap H locs) (hl : lv_has ls nL lv) (isC isR : List Nat) (hC : isC.map (fun i => X[i]?) = cx.map some) (hR : isR.map (fun i => X[i]?) = wr.map some) (hn : va_nd isR = true) (hdis : ∀ i ∈ isR, i ∉ isC)
    (hr : vx_Run p l e R s m args below meth c H locs cells slots mc ms (F0 m pc ls st) rest (jj_q D (va_A (cx ++ pl) H.size) (tt_O O2) a0) (jj_x D (va_A (cx ++ pl) H.size) (tt_OX OX2)) (va_A (cx ++ pl) H.size))
    (kx : ∀ (E : String) (rx pl1 : va_W), OX2 E rx pl1 → jj_Y p l e R s m args below meth c nL A Q (jj_X D A ((wr ++ rx) ++ pl1)) (cells + mc) (slots + ms) pc lv rest E) (kk : ∀ (rx pl1 : va_W) (r : Option Value), O2 rx pl1 r → jj_J p l e R s m args below meth c nL A Q (jj_X D A ((wr ++ rx) ++ pl1)) (cells + mc) (slots + ms) (pc + 3) lv (r.toList ++ rest)) : W p l e R s m args below meth c H locs cells slots Q (F0 m pc ls st) := by
  have hF := va_freeP hW.2 hS C.2.2.2.2.2.2.2.2.1 isC hC
  intro T hT X9
  rcases hr T hT X9 with ⟨v, st₀, t, T', L, h0, X', hL, e1, e2, ⟨⟨w1, r, hO, hv, hX1⟩, hFr⟩, sp⟩ | ⟨q, st₀, t, T', L, E, ce, h0, X', hL, e1, e2, ⟨⟨w1, hO, hX1⟩, hFr⟩, hce, hcv, hcl, sp⟩
  · cases hv
    obtain ⟨rx, pl1, rfl, hO⟩ := hO
    obtain ⟨k1, k2, k3⟩ := vx_keep h0 e1 hS (fun q _ h => hF q h) hF hL hFr
    rw [← e1] at hX1
    obtain ⟨hP2, hD2⟩ := va_joinP hW.1 hW.2 isC isR hC hR hn hdis k2 hF hX1.1 hX1.2
    obtain ⟨t2, a1, b1⟩ := kk rx pl1 _ hO T'.heap (locs ++ L) ls ⟨hP2, hD2⟩ k3 hl T' rfl X'
    exact ⟨t2, sp t2 a1, b1⟩
  · obtain ⟨rx, pl1, rfl, hO⟩ := hO
    obtain ⟨k1, k2, k3⟩ := vx_keep h0 e1 hS (fun q _ h => hF q h) hF hL hFr
    rw [← e1] at hX1
    obtain ⟨hP2, hD2⟩ := va_joinP hW.1 hW.2 isC isR hC hR hn hdis k2 hF hX1.1 hX1.2
    obtain ⟨t2, a1, b1⟩ := kx E rx pl1 hO T'.heap (locs ++ L) ls ce q ⟨hP2, hD2⟩ k3 hl (by rw [e1]; exact hce) hcv hcl T' rfl X'
    exact ⟨t2, sp.trans a1, b1⟩
theorem tt_callV {O2 : va_W → va_W → Option Value → Prop} {OX2 : String → va_W → va_W → Prop} (C : jj_C p l s m args meth c cc nL own ret D cA A ak) {y : MethodName} {bytes : ByteArray} {maxL fr lo index n b : Nat} {rt : Option FieldType} {As : List Value} (hM : jj_M l D cA ak y (.code y bytes maxL rt) fr lo mc ms (cx ++ pl) (.ref b :: As) (tt_O O2) (tt_OX OX2)) (isC isR : List Nat) (hC : isC.map (fun i => X[i]?) = cx.map some) (hR0 : jj_pk isR X = some wr) (hnC : va_nd isC = true) (hn : va_nd isR = true) (hdis : ∀ i ∈ isR, i ∉ isC) {ci : Nat} {fs : List Value} {r0 : vw_C} (qc : Nat) (hrc : (cx ++ pl)[qc]? = some (b, .inr (ci, fs))) (hcc : vwCl[ci]? = some r0) (hr0 : r0.1 = y.cls)
    (h1 : Cond.methodLink own index y ∈ jj_G) (h2 : Cond.instanceMethod y ∈ jj_G) (h3 : Cond.selects y.cls y y ∈ jj_G) (h4 : Cond.initialized y.cls ∈ jj_G) (h5 : Cond.code y bytes maxL rt ∈ jj_G) (hN : jj_N y n) (hAs : As.length = n) (hfr : fr + 1 ≤ R.frames) (hlo : 8 + (maxL + 11) + lo ≤ R.locals) (hcl : cells + mc ≤ R.cells) (hsl : slots + ms ≤ R.slots) (hcat : (rest.map fun v => v.category).sum ≤ 8) (hd : decode cc pc = .ok (.invokevirtual index, 3)) (hst : st = As.reverse ++ .ref b :: rest) (kx : ∀ (E : String) (rx pl1 : va_W), OX2 E rx pl1 → jj_Y p l e R s m args below meth c nL A Q (jj_X D A ((wr ++ rx) ++ pl1)) (cells + mc) (slots + ms) pc lv rest E) (kk : ∀ (rx pl1 : va_W) (r : Option Value), O2 rx pl1 r → jj_J p l e R s m args below meth c nL A Q (jj_X D A ((wr ++ rx) ++ pl1)) (cells + mc) (slots + ms) (pc + 3) lv (r.toList ++ rest)) : jj_J p l e R s m args below meth c nL A Q (jj_X D A (X ++ pl)) cells slots pc lv st := by
  have hR := jj_pk_eq hR0
  intro H locs ls hW hS hl
  have hPr := tt_pre C hW hS isC hC hnC (.ref b :: As)
  have hrv : ∃ cell : Cell, H[b]? = some cell ∧ cell.vm.isStatics = false ∧ s.vm.findClass y.cls = some cell.cls := by
    rw [← hr0]
    exact va_recv C.2.2.2.2.2.2.2.1 (hW.1.part isC hC) hcc hrc
  have hg := jj_gi (own := own) (ws := [.methodLink own index y, .instanceMethod y, .selects y.cls y y, .initialized y.cls]) (cw := .code y bytes maxL rt) (by
    intro w hw
    rcases List.mem_cons.mp hw with rfl | hw
    · exact h1
    rcases List.mem_cons.mp hw with rfl | hw
    · exact h2
    rcases List.mem_cons.mp hw with rfl | hw
    · exact h3
    rcases List.mem_cons.mp hw with rfl | hw
    · exact h4
    · cases hw) h5
  exact tt_run (a0 := (Value.ref b :: As).toArray) C hW hS hl isC isR hC hR hn hdis (vx_runV (Ts := jj_G) (As := As) (rest := rest) ⟨C.1, C.2.1, C.2.2.1, C.2.2.2.2.1, C.2.2.2.2.2.1⟩ (hM H.size) (cwV n C.2.2.2.2.2.1 hg rfl rfl rfl ⟨rfl, hN⟩ ⟨hfr, hlo⟩) ⟨jj_blind, hrv, hPr⟩ rfl hAs hl.1 hst (by show 2 * 0 + _ ≤ 8; omega) hd ⟨hcl, hsl⟩) kx kk
theorem tt_callS {O2 : va_W → va_W → Option Value → Prop} {OX2 : String → va_W → va_W → Prop} (C : jj_C p l s m args meth c cc nL own ret D cA A ak) {y : MethodName} {bytes : ByteArray} {maxL fr lo index n : Nat} {rt : Option FieldType} {As : List Value} (hM : jj_M l D cA ak y (.code y bytes maxL rt) fr lo mc ms (cx ++ pl) As (tt_O O2) (tt_OX OX2)) (isC isR : List Nat) (hC : isC.map (fun i => X[i]?) = cx.map some) (hR0 : jj_pk isR X = some wr) (hnC : va_nd isC = true) (hn : va_nd isR = true) (hdis : ∀ i ∈ isR, i ∉ isC)
    (h1 : Cond.methodLink own index y ∈ jj_G) (h2 : Cond.static y ∈ jj_G) (h4 : Cond.initialized y.cls ∈ jj_G) (h5 : Cond.code y bytes maxL rt ∈ jj_G) (hN : jj_N y n) (hAs : As.length = n) (hfr : fr + 1 ≤ R.frames) (hlo : 8 + (maxL + 11) + lo ≤ R.locals) (hcl : cells + mc ≤ R.cells) (hsl : slots + ms ≤ R.slots) (hcat : (rest.map fun v => v.category).sum ≤ 8) (hd : decode cc pc = .ok (.invokestatic index, 3)) (hst : st = As.reverse ++ rest) (kx : ∀ (E : String) (rx pl1 : va_W), OX2 E rx pl1 → jj_Y p l e R s m args below meth c nL A Q (jj_X D A ((wr ++ rx) ++ pl1)) (cells + mc) (slots + ms) pc lv rest E) (kk : ∀ (rx pl1 : va_W) (r : Option Value), O2 rx pl1 r → jj_J p l e R s m args below meth c nL A Q (jj_X D A ((wr ++ rx) ++ pl1)) (cells + mc) (slots + ms) (pc + 3) lv (r.toList ++ rest)) : jj_J p l e R s m args below meth c nL A Q (jj_X D A (X ++ pl)) cells slots pc lv st := by
  have hR := jj_pk_eq hR0
  intro H locs ls hW hS hl
  have hPr := tt_pre C hW hS isC hC hnC As
  have hg := jj_gi (own := own) (ws := [.methodLink own index y, .static y, .initialized y.cls]) (cw := .code y bytes maxL rt) (by
    intro w hw
    rcases List.mem_cons.mp hw with rfl | hw
    · exact h1
    rcases List.mem_cons.mp hw with rfl | hw
    · exact h2
    rcases List.mem_cons.mp hw with rfl | hw
    · exact h4
    · cases hw) h5
  exact tt_run (a0 := As.toArray) C hW hS hl isC isR hC hR hn hdis (vx_runS (Ts := jj_G) (As := As) (rest := rest) ⟨C.1, C.2.1, C.2.2.1, C.2.2.2.2.1, C.2.2.2.2.2.1⟩ (hM H.size) (va_cwS n C.2.2.2.2.2.1 hg rfl rfl rfl hN ⟨hfr, hlo⟩) ⟨jj_blind, hPr⟩ rfl hAs hl.1 hst (by show 2 * 0 + _ ≤ 8; omega) hd ⟨hcl, hsl⟩) kx kk
theorem tt_callSW {O2 : va_W → va_W → Option Value → Prop} {OX2 : String → va_W → va_W → Prop} (C : jj_C p l s m args meth c cc nL own ret D cA A ak) {y : MethodName} {bytes : ByteArray} {maxL fr lo index n : Nat} {rt : Option FieldType} {hh : List (Nat × Nat × Nat × Nat)} {As : List Value} (hM : jj_M l D cA ak y (.codeWith y bytes maxL rt hh) fr lo mc ms (cx ++ pl) As (tt_O O2) (tt_OX OX2)) (isC isR : List Nat) (hC : isC.map (fun i => X[i]?) = cx.map some) (hR0 : jj_pk isR X = some wr) (hnC : va_nd isC = true) (hn : va_nd isR = true) (hdis : ∀ i ∈ isR, i ∉ isC)
    (h1 : Cond.methodLink own index y ∈ jj_G) (h2 : Cond.static y ∈ jj_G) (h4 : Cond.initialized y.cls ∈ jj_G) (h5 : Cond.codeWith y bytes maxL rt hh ∈ jj_G) (hN : jj_N y n) (hAs : As.length = n) (hfr : fr + 1 ≤ R.frames) (hlo : 8 + (maxL + 11) + lo ≤ R.locals) (hcl : cells + mc ≤ R.cells) (hsl : slots + ms ≤ R.slots) (hcat : (rest.map fun v => v.category).sum ≤ 8) (hd : decode cc pc = .ok (.invokestatic index, 3)) (hst : st = As.reverse ++ rest) (kx : ∀ (E : String) (rx pl1 : va_W), OX2 E rx pl1 → jj_Y p l e R s m args below meth c nL A Q (jj_X D A ((wr ++ rx) ++ pl1)) (cells + mc) (slots + ms) pc lv rest E) (kk : ∀ (rx pl1 : va_W) (r : Option Value), O2 rx pl1 r → jj_J p l e R s m args below meth c nL A Q (jj_X D A ((wr ++ rx) ++ pl1)) (cells + mc) (slots + ms) (pc + 3) lv (r.toList ++ rest)) : jj_J p l e R s m args below meth c nL A Q (jj_X D A (X ++ pl)) cells slots pc lv st := by
  have hR := jj_pk_eq hR0
  intro H locs ls hW hS hl
  have hPr := tt_pre C hW hS isC hC hnC As
  have hg := jj_gi (own := own) (ws := [.methodLink own index y, .static y, .initialized y.cls]) (cw := .codeWith y bytes maxL rt hh) (by
    intro w hw
    rcases List.mem_cons.mp hw with rfl | hw
    · exact h1
    rcases List.mem_cons.mp hw with rfl | hw
    · exact h2
    rcases List.mem_cons.mp hw with rfl | hw
    · exact h4
    · cases hw) h5
  exact tt_run (a0 := As.toArray) C hW hS hl isC isR hC hR hn hdis (vx_runSX (Ts := jj_G) (As := As) (rest := rest) ⟨C.1, C.2.1, C.2.2.1, C.2.2.2.2.1, C.2.2.2.2.2.1⟩ (hM H.size) (vx_cwSW n C.2.2.2.2.2.1 hg rfl rfl rfl hN ⟨hfr, hlo⟩) ⟨jj_blind, hPr⟩ rfl hAs hl.1 hst (by show 2 * 0 + _ ≤ 8; omega) hd ⟨hcl, hsl⟩) kx kk
theorem tt_run0 (C : jj_C p l s m args meth c cc nL own ret D cA A ak) {Wq : va_W} {O : va_W → Option Value → Prop} {H : Heap} {locs : List Loc} {ls : Array Slot} {a0 : Array Value} (hW : jj_X D A Wq H) (hS : va_S A s.heap H locs) (hl : lv_has ls nL lv)
    (hr : vx_Run p l e R s m args below meth c H locs cells slots mc ms (F0 m pc ls st) rest (jj_q D (va_A [] H.size) O a0) (jj_x D (va_A [] H.size) jj_noX) (va_A [] H.size))
    (kk : ∀ (w1 : va_W) (r : Option Value), O w1 r → jj_J p l e R s m args below meth c nL A Q (jj_X D A Wq) (cells + mc) (slots + ms) (pc + 3) lv (r.toList ++ rest)) : W p l e R s m args below meth c H locs cells slots Q (F0 m pc ls st) := by
  have hF := va_free (wc := []) hW.2 hS C.2.2.2.2.2.2.2.2.1 [] rfl
  intro T hT X9
  rcases hr T hT X9 with ⟨v, st₀, t, T', L, h0, X', hL, e1, e2, ⟨⟨w1, r, hO, hv, hX1⟩, hFr⟩, sp⟩ | ⟨q, st₀, t, T', L, E, ce, h0, X', hL, e1, e2, ⟨⟨w1, hO, hX1⟩, hFr⟩, hce, hcv, hcl, sp⟩
  · cases hv
    obtain ⟨k1, k2, k3⟩ := vx_keep h0 e1 hS (fun q _ h => hF q h) hF hL hFr
    have hW2 : jj_X D A Wq T'.heap := ⟨hW.1.kept (fun k q hk => k2 q.1 (hW.1 k q hk).lt (fun h9 => by
      rcases h9 with ⟨k3, e3, h3⟩ | h3
      · cases h3
      · exact absurd (hW.1 k q hk).lt (Nat.not_lt_of_le h3))), hW.2⟩
    obtain ⟨t2, a1, b1⟩ := kk w1 _ hO T'.heap (locs ++ L) ls hW2 k3 hl T' rfl X'
    exact ⟨t2, sp t2 a1, b1⟩
  · exact hO.elim
theorem tt_call0S {Wq : va_W} {O : va_W → Option Value → Prop} (C : jj_C p l s m args meth c cc nL own ret D cA A ak) {y : MethodName} {bytes : ByteArray} {maxL fr lo index n : Nat} {rt : Option FieldType} {As : List Value} (hM : jj_M l D cA ak y (.code y bytes maxL rt) fr lo mc ms [] As O jj_noX) 
    (h1 : Cond.methodLink own index y ∈ jj_G) (h2 : Cond.static y ∈ jj_G) (h4 : Cond.initialized y.cls ∈ jj_G) (h5 : Cond.code y bytes maxL rt ∈ jj_G) (hN : jj_N y n) (hAs : As.length = n) (hfr : fr + 1 ≤ R.frames) (hlo : 8 + (maxL + 11) + lo ≤ R.locals) (hcl : cells + mc ≤ R.cells) (hsl : slots + ms ≤ R.slots) (hcat : (rest.map fun v => v.category).sum ≤ 8) (hd : decode cc pc = .ok (.invokestatic index, 3)) (hst : st = As.reverse ++ rest) (kk : ∀ (w1 : va_W) (r : Option Value), O w1 r → jj_J p l e R s m args below meth c nL A Q (jj_X D A Wq) (cells + mc) (slots + ms) (pc + 3) lv (r.toList ++ rest)) : jj_J p l e R s m args below meth c nL A Q (jj_X D A Wq) cells slots pc lv st := by
  intro H locs ls hW hS hl
  have hPr := jj_pre (wc := []) C hW hS [] rfl rfl As
  have hg := jj_gi (own := own) (ws := [.methodLink own index y, .static y, .initialized y.cls]) (cw := .code y bytes maxL rt) (by
    intro w hw
    rcases List.mem_cons.mp hw with rfl | hw
    · exact h1
    rcases List.mem_cons.mp hw with rfl | hw
    · exact h2
    rcases List.mem_cons.mp hw with rfl | hw
    · exact h4
    · cases hw) h5
  exact tt_run0 (a0 := As.toArray) C hW hS hl (vx_runS (Ts := jj_G) (As := As) (rest := rest) ⟨C.1, C.2.1, C.2.2.1, C.2.2.2.2.1, C.2.2.2.2.2.1⟩ (hM H.size) (va_cwS n C.2.2.2.2.2.1 hg rfl rfl rfl hN ⟨hfr, hlo⟩) ⟨jj_blind, hPr⟩ rfl hAs hl.1 hst (by show 2 * 0 + _ ≤ 8; omega) hd ⟨hcl, hsl⟩) kk
theorem tt_call0Vs {Wq : va_W} {O : va_W → Option Value → Prop} (C : jj_C p l s m args meth c cc nL own ret D cA A ak) {y : MethodName} {bytes : ByteArray} {maxL fr lo index n : Nat} {rt : Option FieldType} {As : List Value} {k : Nat} (hM : jj_M l D cA ak y (.code y bytes maxL rt) fr lo mc ms [] (.ref (ak.1 k) :: As) O jj_noX)  (k0 : Nat) (hk : k < jj_n) (hr0 : y.cls = "java/lang/String")
    (h1 : Cond.methodLink own index y ∈ jj_G) (h2 : Cond.instanceMethod y ∈ jj_G) (h3 : Cond.selects y.cls y y ∈ jj_G) (h4 : Cond.initialized y.cls ∈ jj_G) (h5 : Cond.code y bytes maxL rt ∈ jj_G) (hN : jj_N y n) (hAs : As.length = n) (hfr : fr + 1 ≤ R.frames) (hlo : 8 + (maxL + 11) + lo ≤ R.locals) (hcl : cells + mc ≤ R.cells) (hsl : slots + ms ≤ R.slots) (hcat : (rest.map fun v => v.category).sum ≤ 8) (hd : decode cc pc = .ok (.invokevirtual index, 3)) (hst : st = As.reverse ++ .ref (ak.1 k) :: rest) (kk : ∀ (w1 : va_W) (r : Option Value), O w1 r → jj_J p l e R s m args below meth c nL A Q (jj_X D A Wq) (cells + mc) (slots + ms) (pc + 3) lv (r.toList ++ rest)) : jj_J p l e R s m args below meth c nL A Q (jj_X D A Wq) cells slots pc lv st := by
  intro H locs ls hW hS hl
  have hPr := jj_pre (wc := []) C hW hS [] rfl rfl (.ref (ak.1 k) :: As)
  have hrv : ∃ cell : Cell, H[ak.1 k]? = some cell ∧ cell.vm.isStatics = false ∧ s.vm.findClass y.cls = some cell.cls := by
    rw [hr0]
    obtain ⟨cell, g1, g2, g3, -⟩ := (C.2.2.2.2.2.2.2.2.2.2.2.2.2.2.2.2.2.1 k hk).1.kept hS.2.1
    exact ⟨cell, g1, g2, g3⟩
  have hg := jj_gi (own := own) (ws := [.methodLink own index y, .instanceMethod y, .selects y.cls y y, .initialized y.cls]) (cw := .code y bytes maxL rt) (by
    intro w hw
    rcases List.mem_cons.mp hw with rfl | hw
    · exact h1
    rcases List.mem_cons.mp hw with rfl | hw
    · exact h2
    rcases List.mem_cons.mp hw with rfl | hw
    · exact h3
    rcases List.mem_cons.mp hw with rfl | hw
    · exact h4
    · cases hw) h5
  exact tt_run0 (a0 := (Value.ref (ak.1 k) :: As).toArray) C hW hS hl (vx_runV (Ts := jj_G) (As := As) (rest := rest) ⟨C.1, C.2.1, C.2.2.1, C.2.2.2.2.1, C.2.2.2.2.2.1⟩ (hM H.size) (cwV n C.2.2.2.2.2.1 hg rfl rfl rfl ⟨rfl, hN⟩ ⟨hfr, hlo⟩) ⟨jj_blind, hrv, hPr⟩ rfl hAs hl.1 hst (by show 2 * 0 + _ ≤ 8; omega) hd ⟨hcl, hsl⟩) kk
/-- a receiver in the pool: its place -/
theorem tt_recv {tk : Nat → tt_K} {Kd : Nat → Nat} {cx pl : va_W} {cA : Nat → ClassId} (hok : tt_ok tk cA Kd pl) {b kn ci : Nat} {fts : List tt_T} (hb : Kd b = kn) (hn : kn ≠ 0) (htk : tk kn = (0, ci, 0, fts)) : ∃ (qc : Nat) (fs : List Value), (cx ++ pl)[qc]? = some (b, .inr (ci, fs)) := by
  obtain ⟨i, e9, hi, hE⟩ := hok b (by rw [hb]; exact hn)
  rw [hb, htk] at hE
  obtain ⟨fs, rfl, -, -⟩ := (show ∃ fs : List Value, e9 = .inr (ci, fs) ∧ fs.length = fts.length ∧ ∀ (j : Nat) (t : tt_T) (v : Value), fts[j]? = some t → fs[j]? = some v → tt_V Kd t v from hE)
  exact ⟨cx.length + i, fs, tt_pos hi⟩
end TT
