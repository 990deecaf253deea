/-! THE LAW OVER TWO POOLS: its states between two calls -/
theorem rz_seg {α : Type} (x y z : List α) : (List.range' x.length y.length).map (fun i => (x ++ (y ++ z))[i]?) = y.map some := by
  refine List.ext_getElem? fun k => ?_
  rw [List.getElem?_map, List.getElem?_map]
  by_cases hk : k < y.length
  · rw [List.getElem?_range' hk]
    show some (x ++ (y ++ z))[x.length + 1 * k]? = _
    rw [Nat.one_mul, List.getElem?_append_right (by omega), Nat.add_sub_cancel_left, List.getElem?_append_left hk, List.getElem?_eq_getElem hk]; rfl
  · rw [List.getElem?_eq_none (by rw [List.length_range']; omega), List.getElem?_eq_none (by omega)]; rfl
theorem rz_sw {α : Type} (a b : α) (P Q : List α) : (0 :: 1 :: (List.range' (P.length + 2) Q.length ++ List.range' 2 P.length)).map (fun i => ((a :: b :: P) ++ Q)[i]?) = ((a :: b :: Q) ++ P).map some := by
  have h1 := rz_seg (a :: b :: P) Q []
  have h2 := rz_seg [a, b] P Q
  rw [List.append_nil] at h1
  rw [List.map_cons, List.map_cons, List.map_append]
  have h3 : (List.range' (P.length + 2) Q.length).map (fun i => ((a :: b :: P) ++ Q)[i]?) = Q.map some := h1
  have h4 : (List.range' 2 P.length).map (fun i => ((a :: b :: P) ++ Q)[i]?) = P.map some := h2
  rw [h3, h4]
  show some a :: some b :: (Q.map some ++ P.map some) = some a :: some b :: (Q ++ P).map some
  rw [List.map_append]
theorem rz_swn (a n : Nat) : va_nd (0 :: 1 :: (List.range' (a + 2) n ++ List.range' 2 a)) = true := rz_ndo (by
  refine List.nodup_cons.mpr ⟨fun h => ?_, List.nodup_cons.mpr ⟨fun h => ?_, List.nodup_append.mpr ⟨(List.nodup_range' ..), (List.nodup_range' ..), fun x hx y hy => ?_⟩⟩⟩
  · rcases List.mem_cons.mp h with h1 | h1
    · omega
    · rcases List.mem_append.mp h1 with h2 | h2 <;> (have := (List.mem_range'_1.mp h2).1; omega)
  · rcases List.mem_append.mp h with h2 | h2 <;> (have := (List.mem_range'_1.mp h2).1; omega)
  · have h1 := (List.mem_range'_1.mp hx).1
    have h2 := (List.mem_range'_1.mp hy).2
    omega)
section LW
variable {p : Program} {l : Launch} {e : Env} {R : Room} {s : State} {m : MethodId} {args : Array Value} {below : List Frame} {meth : Method} {c : Code}
variable {nL : Nat} {A : Nat → Prop} {Q : State → Prop} {Wd : Heap → Prop} {cells slots pc : Nat} {lv : List (Nat × Value)} {st : List Value} {cc : ByteArray} {own : String} {ret : Option FieldType} {D : va_G} {cA : Nat → ClassId} {ak : (Nat → Nat) × (Nat → Nat)} {pl pm : va_W}
/-- the two pools change places -/
theorem tt_pools {a b : Nat × va_E} (kk : jj_J p l e R s m args below meth c nL A Q (jj_X D A ((a :: b :: pm) ++ pl)) cells slots pc lv st) : jj_J p l e R s m args below meth c nL A Q (jj_X D A ((a :: b :: pl) ++ pm)) cells slots pc lv st :=
  tt_pl0 (X := (a :: b :: pl) ++ pm) (fun H locs ls hW hS hl => by
    have h : jj_X D A (((a :: b :: pm) ++ pl) ++ []) H := ⟨hW.1.part _ (rz_sw a b pl pm), hW.2.part _ (rz_swn pl.length pm.length) (rz_sw a b pl pm)⟩
    rw [List.append_nil] at h
    exact kk H locs ls h hS hl)
theorem jj_xlen (C : jj_C p l s m args meth c cc nL own ret D cA A ak) {b L : Nat} {xs : Nat → Int32} (hX : va_X b L xs s s.heap) (hbl : b < s.heap.size) (hbA : ¬ A b) (hd : decode cc pc = .ok (.arraylength, 1)) (kk : jj_J p l e R s m args below meth c nL A Q Wd cells slots (pc + 1) lv (.int (nI L) :: st)) : jj_J p l e R s m args below meth c nL A Q Wd cells slots pc lv (.ref b :: st) :=
  fun H locs ls hW hS hl => va_slen C.1 C.2.1 hX hbl hbA hS hd (kk H locs ls hW hS hl)
theorem rz_clamp {k : Nat} (h : k < 2147483648) : (nI k).toNatClampNeg = k := by
  show (nI k).toInt.toNat = k
  rw [rl_ti h]; rfl
theorem rz_in {k L : Nat} (h : k < L) (hL : L ≤ 3072) : vp_in (nI k) L := vp_in_iff.mpr ⟨by rw [rl_ti (by omega)]; omega, by rw [rl_ti (by omega)]; omega⟩
theorem jj_xld (C : jj_C p l s m args meth c cc nL own ret D cA A ak) {b L : Nat} {xs : Nat → Int32} (hX : va_X b L xs s s.heap) (hbl : b < s.heap.size) (hbA : ¬ A b) {k : Nat} (hk : k < L) (hL : L ≤ 3072) (hd : decode cc pc = .ok (.iaload, 1)) (kk : jj_J p l e R s m args below meth c nL A Q Wd cells slots (pc + 1) lv (.int (xs k) :: st)) : jj_J p l e R s m args below meth c nL A Q Wd cells slots pc lv (.int (nI k) :: .ref b :: st) :=
  fun H locs ls hW hS hl => va_sld C.1 C.2.1 hX hbl hbA hS (rz_in hk hL) hd (by rw [rz_clamp (by omega)]; exact kk H locs ls hW hS hl)
end LW
theorem rz_go {L n : Nat} (hL : L ≤ 3072) (hn : n ≤ 600) (h : ¬ nI L - 6 < nI (6 * n)) : 6 * n + 6 ≤ L := by
  obtain ⟨z, h1, h2⟩ := tt_isub (x := nI L) (y := 6) (a := (L : Int)) (b := 6) (rl_ti (by omega)) (by decide) (by omega) (by omega)
  rw [h1] at h
  have h4 := Int32.le_iff_toInt_le.mp (Int32.not_lt.mp h)
  rw [h2, rl_ti (by omega)] at h4
  omega
theorem rz_six (n : Nat) : nI (6 * n) + Int32.ofInt 6 = nI (6 * (n + 1)) := rl_addR (kn := 6) (by decide) (by omega)
theorem rz_n0 : (0 : Int32) = nI 0 := by decide
/-- the class: its text, what is told of the latest error -/
def rw_C (cA : Nat → ClassId) (h0 x : Nat) (cz : Nat → Int) (e1 : Nat) (e2 : Int32) (pl : va_W) : Prop := ∃ (K : Nat → Nat) (a a9 : Nat) (u : Nat → Int32), K h0 = 15 ∧ K a = 10 ∧ K a9 = 11 ∧ tt_ok tt_tk cA K pl ∧ tt_at pl h0 0 (.ref a) ∧ tt_at pl a 0 (.ref a9) ∧ tt_at pl a 1 (.int (nI x)) ∧ tt_ic pl a9 u ∧ (∀ k : Nat, k < x → cz k = (u k).toInt) ∧ tt_at pl h0 1 (.int (nI e1)) ∧ tt_at pl h0 2 (.int e2)
/-- the kinds of the model's cells -/
def rw_K (K : Nat → Nat) (h1 aw aa at1 ai af ap : Nat) : Prop := K h1 = 1 ∧ K aw = 2 ∧ K aa = 3 ∧ K at1 = 4 ∧ K ai = 5 ∧ K af = 6 ∧ K ap = 7
/-- the model behind n calls: its text, its latest error, what its money and its text may come to -/
def rw_R (cA : Nat → ClassId) (n : Nat) (h1 x : Nat) (cz : Nat → Int) (e1 : Nat) (e2 : Int32) (pl : va_W) : Prop := ∃ (K : Nat → Nat) (aw aa at1 ai af ap a9 : Nat) (B : Int) (u : Nat → Int32), rw_K K h1 aw aa at1 ai af ap ∧ K a9 = 10 ∧ tt_ok rt_tk cA K pl ∧ rl_m pl h1 aw aa at1 ai af ap ∧ tt_at pl h1 12 (.ref a9) ∧ tt_at pl h1 13 (.int (nI x)) ∧ tt_ic pl a9 u ∧ (∀ k : Nat, k < x → cz k = ((u k) &&& 255).toInt) ∧ tt_at pl h1 17 (.int (nI e1)) ∧ tt_at pl h1 18 (.int e2) ∧ e1 ≤ 3 ∧ rl_M B (5000 * (n : Int)) pl h1 aw ap ∧ 12760000000 ≤ B ∧ B + 3000000 * (x : Int) ≤ 12800000000 + 60000000 * (n : Int)
theorem rw_R.up {cA : Nat → ClassId} {n h1 x e1 : Nat} {cz : Nat → Int} {e2 : Int32} {pl : va_W} (h : rw_R cA n h1 x cz e1 e2 pl) : rw_R cA (n + 1) h1 x cz e1 e2 pl := by
  obtain ⟨K, aw, aa, at1, ai, af, ap, a9, B, u, k, k9, o, m, h12, h13, hu, hc, h17, h18, he, M, b, c⟩ := h
  exact ⟨K, aw, aa, at1, ai, af, ap, a9, B, u, k, k9, o, m, h12, h13, hu, hc, h17, h18, he, M.mono (Int.le_refl _) (by omega), b, by omega⟩
/-- the text's array, out of the kinds -/
theorem rw_txt {cA : Nat → ClassId} {K : Nat → Nat} {pl : va_W} {a : Nat} (hok : tt_ok tt_tk cA K pl) (ha : K a = 10) : ∃ (a9 : Nat) (u : Nat → Int32), K a9 = 11 ∧ tt_at pl a 0 (.ref a9) ∧ tt_ic pl a9 u := by
  obtain ⟨i, e, hi, hE⟩ := hok a (by rw [ha]; decide)
  rw [ha] at hE
  obtain ⟨fs, rfl, hlen, hel⟩ := (show ∃ fs : List Value, e = .inr ((tt_tk 10).2.1, fs) ∧ fs.length = (tt_tk 10).2.2.2.length ∧ ∀ (j : Nat) (t : tt_T) (v : Value), (tt_tk 10).2.2.2[j]? = some t → fs[j]? = some v → tt_V K t v from hE)
  have h0 : 0 < fs.length := by rw [hlen]; decide
  obtain ⟨a9, hv, hk⟩ := hel 0 (2, 11, 0) _ rfl (List.getElem?_eq_getElem h0)
  have hk9 : K a9 = 11 := hk
  obtain ⟨j, e9, hj, hE9⟩ := hok a9 (by rw [hk9]; decide)
  rw [hk9] at hE9
  obtain ⟨u, rfl, -⟩ := (show ∃ f : Nat → Int32, e9 = .inl (cA 1, 400, .inl f) ∧ ∀ j : Nat, j < 400 → tt_V K ((tt_tk 11).2.2.2.headD (0, 0, 0)) (.int (f j)) from hE9)
  exact ⟨a9, u, hk9, ⟨i, _, fs, hi, by rw [List.getElem?_eq_getElem h0, hv]⟩, ⟨j, 400, cA 1, hj⟩⟩
theorem te_bitv (v : BitVec 32) (s : Nat) (hs : s ≤ 24) : ((v.sshiftRight s).signExtend 8).signExtend 32 &&& 255#32 = (v >>> s) &&& 255#32 := by
  refine BitVec.eq_of_getLsbD_eq fun i hi => ?_
  rw [BitVec.getLsbD_and, BitVec.getLsbD_and]
  by_cases h : i < 8
  · have e1 : (((v.sshiftRight s).signExtend 8).signExtend 32).getLsbD i = v.getLsbD (s + i) := by
      rw [BitVec.getLsbD_signExtend, BitVec.getLsbD_signExtend, BitVec.getLsbD_sshiftRight]
      have h1 : i < 32 := hi
      have h2 : s + i < 32 := by omega
      simp [h, h1, h2]
    rw [e1, BitVec.getLsbD_ushiftRight]
  · have e2 : (255#32).getLsbD i = false := (show ∀ i : Nat, i < 32 → ¬ i < 8 → (255#32).getLsbD i = false by decide) i hi h
    rw [e2, Bool.and_false, Bool.and_false]
theorem te_cm24 (p : Int32) : (te_m p 24) &&& 255 = te_c p 24 := Int32.toBitVec_inj.mp (te_bitv p.toBitVec 24 (by decide))
theorem te_cm16 (p : Int32) : (te_m p 16) &&& 255 = te_c p 16 := Int32.toBitVec_inj.mp (te_bitv p.toBitVec 16 (by decide))
theorem te_cm8 (p : Int32) : (te_m p 8) &&& 255 = te_c p 8 := Int32.toBitVec_inj.mp (te_bitv p.toBitVec 8 (by decide))
theorem te_cm0 (p : Int32) : (te_m p 0) &&& 255 = te_c p 0 := Int32.toBitVec_inj.mp (te_bitv p.toBitVec 0 (by decide))
theorem te_app {cz : Nat → Int} {u um v w : Nat → Int32} {n : Nat} {p1 p2 p3 p4 p5 : Int32} (hu : ∀ k : Nat, k < n → cz k = (u k).toInt) (hm : ∀ k : Nat, k < n → cz k = ((um k) &&& 255).toInt) (hv : ∀ k : Nat, k < n → v k = u k) (hw : ∀ k : Nat, k < n → w k = um k) (hq : v (n) = te_c p1 24 ∧ v (1 + n) = te_c p1 16 ∧ v (2 + n) = te_c p1 8 ∧ v (3 + n) = te_c p1 0 ∧ v (4 + n) = te_c p2 24 ∧ v (5 + n) = te_c p2 16 ∧ v (6 + n) = te_c p2 8 ∧ v (7 + n) = te_c p2 0 ∧ v (8 + n) = te_c p3 24 ∧ v (9 + n) = te_c p3 16 ∧ v (10 + n) = te_c p3 8 ∧ v (11 + n) = te_c p3 0 ∧ v (12 + n) = te_c p4 24 ∧ v (13 + n) = te_c p4 16 ∧ v (14 + n) = te_c p4 8 ∧ v (15 + n) = te_c p4 0 ∧ v (16 + n) = te_c p5 24 ∧ v (17 + n) = te_c p5 16 ∧ v (18 + n) = te_c p5 8 ∧ v (19 + n) = te_c p5 0) (hr : w (n) = te_m p1 24 ∧ w (1 + n) = te_m p1 16 ∧ w (2 + n) = te_m p1 8 ∧ w (3 + n) = te_m p1 0 ∧ w (4 + n) = te_m p2 24 ∧ w (5 + n) = te_m p2 16 ∧ w (6 + n) = te_m p2 8 ∧ w (7 + n) = te_m p2 0 ∧ w (8 + n) = te_m p3 24 ∧ w (9 + n) = te_m p3 16 ∧ w (10 + n) = te_m p3 8 ∧ w (11 + n) = te_m p3 0 ∧ w (12 + n) = te_m p4 24 ∧ w (13 + n) = te_m p4 16 ∧ w (14 + n) = te_m p4 8 ∧ w (15 + n) = te_m p4 0 ∧ w (16 + n) = te_m p5 24 ∧ w (17 + n) = te_m p5 16 ∧ w (18 + n) = te_m p5 8 ∧ w (19 + n) = te_m p5 0) : ∀ k : Nat, k < 20 + n → (v k).toInt = ((w k) &&& 255).toInt := by
  obtain ⟨q0, q1, q2, q3, q4, q5, q6, q7, q8, q9, q10, q11, q12, q13, q14, q15, q16, q17, q18, q19⟩ := hq
  obtain ⟨m0, m1, m2, m3, m4, m5, m6, m7, m8, m9, m10, m11, m12, m13, m14, m15, m16, m17, m18, m19⟩ := hr
  intro k hk
  by_cases h : k < n
  · rw [hv k h, hw k h, ← hu k h, hm k h]
  · rcases (by omega : k = n ∨ k = 1 + n ∨ k = 2 + n ∨ k = 3 + n ∨ k = 4 + n ∨ k = 5 + n ∨ k = 6 + n ∨ k = 7 + n ∨ k = 8 + n ∨ k = 9 + n ∨ k = 10 + n ∨ k = 11 + n ∨ k = 12 + n ∨ k = 13 + n ∨ k = 14 + n ∨ k = 15 + n ∨ k = 16 + n ∨ k = 17 + n ∨ k = 18 + n ∨ k = 19 + n) with rfl | rfl | rfl | rfl | rfl | rfl | rfl | rfl | rfl | rfl | rfl | rfl | rfl | rfl | rfl | rfl | rfl | rfl | rfl | rfl
    · rw [q0, m0, te_cm24]
    · rw [q1, m1, te_cm16]
    · rw [q2, m2, te_cm8]
    · rw [q3, m3, te_cm0]
    · rw [q4, m4, te_cm24]
    · rw [q5, m5, te_cm16]
    · rw [q6, m6, te_cm8]
    · rw [q7, m7, te_cm0]
    · rw [q8, m8, te_cm24]
    · rw [q9, m9, te_cm16]
    · rw [q10, m10, te_cm8]
    · rw [q11, m11, te_cm0]
    · rw [q12, m12, te_cm24]
    · rw [q13, m13, te_cm16]
    · rw [q14, m14, te_cm8]
    · rw [q15, m15, te_cm0]
    · rw [q16, m16, te_cm24]
    · rw [q17, m17, te_cm16]
    · rw [q18, m18, te_cm8]
    · rw [q19, m19, te_cm0]
