/-! THE LAW OVER TWO POOLS: its states between two calls -/
theorem rz_seg {α : Type} (x y z : List α) : (List.range' x.length y.length).map (fun i => (x ++ (y ++ z))[i]?) = y.map some := by
  refine List.ext_getElem? fun k => ?_
  rw [List.getElem?_map, List.getElem?_map]
  by_cases hk : k < y.length
  · rw [List.getElem?_range' hk]
    show some (x ++ (y ++ z))[x.length + 1 * k]? = _
    rw [Nat.one_mul, List.getElem?_append_right (by omega), Nat.add_sub_cancel_left, List.getElem?_append_left hk, List.getElem?_eq_getElem hk]; rfl
  · rw [List.getElem?_eq_none (by rw [List.length_range']; omega), List.getElem?_eq_none (by omega)]; rfl
theorem rz_sw {α : Type} (a b : α) (P Q : List α) : (0 :: 1 :: (List.range' (P.length + 2) Q.length ++ List.range' 2 P.length)).map (fun i => ((a :: b :: P) ++ Q)[i]?) = ((a :: b :: Q) ++ P).map some := by
  have h1 := rz_seg (a :: b :: P) Q []
  have h2 := rz_seg [a, b] P Q
  rw [List.append_nil] at h1
  rw [List.map_cons, List.map_cons, List.map_append]
  have h3 : (List.range' (P.length + 2) Q.length).map (fun i => ((a :: b :: P) ++ Q)[i]?) = Q.map some := h1
  have h4 : (List.range' 2 P.length).map (fun i => ((a :: b :: P) ++ Q)[i]?) = P.map some := h2
  rw [h3, h4]
  show some a :: some b :: (Q.map some ++ P.map some) = some a :: some b :: (Q ++ P).map some
  rw [List.map_append]
theorem rz_swn (a n : Nat) : va_nd (0 :: 1 :: (List.range' (a + 2) n ++ List.range' 2 a)) = true := rz_ndo (by
  refine List.nodup_cons.mpr ⟨fun h => ?_, List.nodup_cons.mpr ⟨fun h => ?_, List.nodup_append.mpr ⟨(List.nodup_range' ..), (List.nodup_range' ..), fun x hx y hy => ?_⟩⟩⟩
  · rcases List.mem_cons.mp h with h1 | h1
    · omega
    · rcases List.mem_append.mp h1 with h2 | h2 <;> (have := (List.mem_range'_1.mp h2).1; omega)
  · rcases List.mem_append.mp h with h2 | h2 <;> (have := (List.mem_range'_1.mp h2).1; omega)
  · have h1 := (List.mem_range'_1.mp hx).1
    have h2 := (List.mem_range'_1.mp hy).2
    omega)
section LW
variable {p : Program} {l : Launch} {e : Env} {R : Room} {s : State} {m : MethodId} {args : Array Value} {below : List Frame} {meth : Method} {c : Code}
variable {nL : Nat} {A : Nat → Prop} {Q : State → Prop} {Wd : Heap → Prop} {cells slots pc : Nat} {lv : List (Nat × Value)} {st : List Value} {cc : ByteArray} {own : String} {ret : Option FieldType} {D : va_G} {cA : Nat → ClassId} {ak : (Nat → Nat) × (Nat → Nat)} {pl pm : va_W}
/-- the two pools change places -/
theorem tt_pools {a b : Nat × va_E} (kk : jj_J p l e R s m args below meth c nL A Q (jj_X D A ((a :: b :: pm) ++ pl)) cells slots pc lv st) : jj_J p l e R s m args below meth c nL A Q (jj_X D A ((a :: b :: pl) ++ pm)) cells slots pc lv st :=
  tt_pl0 (X := (a :: b :: pl) ++ pm) (fun H locs ls hW hS hl => by
    have h : jj_X D A (((a :: b :: pm) ++ pl) ++ []) H := ⟨hW.1.part _ (rz_sw a b pl pm), hW.2.part _ (rz_swn pl.length pm.length) (rz_sw a b pl pm)⟩
    rw [List.append_nil] at h
    exact kk H locs ls h hS hl)
theorem jj_xlen (C : jj_C p l s m args meth c cc nL own ret D cA A ak) {b L : Nat} {xs : Nat → Int32} (hX : va_X b L xs s s.heap) (hbl : b < s.heap.size) (hbA : ¬ A b) (hd : decode cc pc = .ok (.arraylength, 1)) (kk : jj_J p l e R s m args below meth c nL A Q Wd cells slots (pc + 1) lv (.int (nI L) :: st)) : jj_J p l e R s m args below meth c nL A Q Wd cells slots pc lv (.ref b :: st) :=
  fun H locs ls hW hS hl => va_slen C.1 C.2.1 hX hbl hbA hS hd (kk H locs ls hW hS hl)
theorem rz_clamp {k : Nat} (h : k < 2147483648) : (nI k).toNatClampNeg = k := by
  show (nI k).toInt.toNat = k
  rw [rl_ti h]; rfl
theorem rz_in {k L : Nat} (h : k < L) (hL : L ≤ 3072) : vp_in (nI k) L := vp_in_iff.mpr ⟨by rw [rl_ti (by omega)]; omega, by rw [rl_ti (by omega)]; omega⟩
theorem jj_xld (C : jj_C p l s m args meth c cc nL own ret D cA A ak) {b L : Nat} {xs : Nat → Int32} (hX : va_X b L xs s s.heap) (hbl : b < s.heap.size) (hbA : ¬ A b) {k : Nat} (hk : k < L) (hL : L ≤ 3072) (hd : decode cc pc = .ok (.iaload, 1)) (kk : jj_J p l e R s m args below meth c nL A Q Wd cells slots (pc + 1) lv (.int (xs k) :: st)) : jj_J p l e R s m args below meth c nL A Q Wd cells slots pc lv (.int (nI k) :: .ref b :: st) :=
  fun H locs ls hW hS hl => va_sld C.1 C.2.1 hX hbl hbA hS (rz_in hk hL) hd (by rw [rz_clamp (by omega)]; exact kk H locs ls hW hS hl)
end LW
theorem rz_go {L n : Nat} (hL : L ≤ 3072) (hn : n ≤ 600) (h : ¬ nI L - 6 < nI (6 * n)) : 6 * n + 6 ≤ L := by
  obtain ⟨z, h1, h2⟩ := tt_isub (x := nI L) (y := 6) (a := (L : Int)) (b := 6) (rl_ti (by omega)) (by decide) (by omega) (by omega)
  rw [h1] at h
  have h4 := Int32.le_iff_toInt_le.mp (Int32.not_lt.mp h)
  rw [h2, rl_ti (by omega)] at h4
  omega
theorem rz_six (n : Nat) : nI (6 * n) + Int32.ofInt 6 = nI (6 * (n + 1)) := rl_addR (kn := 6) (by decide) (by omega)
theorem rz_n0 : (0 : Int32) = nI 0 := by decide
/-- the class: how long its text is -/
def rw_C (cA : Nat → ClassId) (h0 x : Nat) (pl : va_W) : Prop := ∃ (K : Nat → Nat) (a : Nat), K h0 = 15 ∧ K a = 10 ∧ tt_ok tt_tk cA K pl ∧ tt_at pl h0 0 (.ref a) ∧ tt_at pl a 1 (.int (nI x))
theorem rw_C.go {cA : Nat → ClassId} {h0 x a : Nat} {K K1 : Nat → Nat} {WS : List (Nat × Nat)} {pl pl1 : va_W} (k1 : K h0 = 15) (k2 : K a = 10) (f1 : tt_at pl h0 0 (.ref a)) (f2 : tt_at pl a 1 (.int (nI x))) (hx : tt_ex K K1) (hok : tt_ok tt_tk cA K1 pl1) (hf : tt_fr K WS pl pl1) (w1 : (15, 0) ∉ WS) (w2 : (10, 1) ∉ WS) : rw_C cA h0 x pl1 := ⟨K1, a, hx.kd k1 (by decide), hx.kd k2 (by decide), hok, hf.at k1 (by decide) w1 f1, hf.at k2 (by decide) w2 f2⟩
theorem rw_C.set {cA : Nat → ClassId} {h0 x a : Nat} {K K1 : Nat → Nat} {WS : List (Nat × Nat)} {pl pl1 : va_W} (k1 : K h0 = 15) (k2 : K a = 10) (f1 : tt_at pl h0 0 (.ref a)) (hx : tt_ex K K1) (hok : tt_ok tt_tk cA K1 pl1) (hf : tt_fr K WS pl pl1) (w1 : (15, 0) ∉ WS) {v : Int32} (f2 : tt_at pl1 a 1 (.int v)) (hv : v = nI x) : rw_C cA h0 x pl1 := ⟨K1, a, hx.kd k1 (by decide), hx.kd k2 (by decide), hok, hf.at k1 (by decide) w1 f1, by rw [← hv]; exact f2⟩
/-- the kinds of the model's cells -/
def rw_K (K : Nat → Nat) (h1 aw aa at1 ai af ap : Nat) : Prop := K h1 = 1 ∧ K aw = 2 ∧ K aa = 3 ∧ K at1 = 4 ∧ K ai = 5 ∧ K af = 6 ∧ K ap = 7
/-- the model behind n calls: how long its text is, what its money and its text may come to -/
def rw_R (cA : Nat → ClassId) (n : Nat) (h1 x : Nat) (pl : va_W) : Prop := ∃ (K : Nat → Nat) (aw aa at1 ai af ap : Nat) (B : Int), rw_K K h1 aw aa at1 ai af ap ∧ tt_ok rt_tk cA K pl ∧ rl_m pl h1 aw aa at1 ai af ap ∧ tt_at pl h1 13 (.int (nI x)) ∧ rl_M B (5000 * (n : Int)) pl h1 aw ap ∧ 12760000000 ≤ B ∧ B + 3000000 * (x : Int) ≤ 12800000000 + 60000000 * (n : Int)
theorem rw_R.up {cA : Nat → ClassId} {n h1 x : Nat} {pl : va_W} (h : rw_R cA n h1 x pl) : rw_R cA (n + 1) h1 x pl := by
  obtain ⟨K, aw, aa, at1, ai, af, ap, B, k, o, m, a, M, b, c⟩ := h
  exact ⟨K, aw, aa, at1, ai, af, ap, B, k, o, m, a, M.mono (Int.le_refl _) (by omega), b, by omega⟩
theorem rw_R.go {cA : Nat → ClassId} {n h1 x y aw aa at1 ai af ap : Nat} {K : Nat → Nat} {WS : List (Nat × Nat)} {pl pl1 : va_W} {B B1 C1 : Int} (hk : rw_K K h1 aw aa at1 ai af ap) (hok : tt_ok rt_tk cA K pl1) (hf : tt_fr K WS pl pl1) (hm : rl_m pl h1 aw aa at1 ai af ap) (w : WS.all (fun q => decide (6 ≤ q.2)) = true) (h13 : tt_at pl1 h1 13 (.int (nI y))) (hM : rl_M B1 C1 pl1 h1 aw ap) (hC : C1 ≤ 5000 * (n : Int) + 5000) (hB0 : 12760000000 ≤ B) (hB1 : B ≤ B1) (hBF : B + 3000000 * (x : Int) ≤ 12800000000 + 60000000 * (n : Int)) (hBG : B1 + 3000000 * (y : Int) ≤ B + 3000000 * (x : Int) + 60000000) : rw_R cA (n + 1) h1 y pl1 :=
  ⟨K, aw, aa, at1, ai, af, ap, B1, hk, hok, hm.fr hf hk.1 w, h13, hM.mono (Int.le_refl _) (by omega), by omega, by omega⟩
theorem rw_R.std {cA : Nat → ClassId} {n h1 x aw aa at1 ai af ap : Nat} {K : Nat → Nat} {WS : List (Nat × Nat)} {pl pl1 : va_W} {B B1 C1 : Int} (hk : rw_K K h1 aw aa at1 ai af ap) (hok : tt_ok rt_tk cA K pl1) (hf : tt_fr K WS pl pl1) (hm : rl_m pl h1 aw aa at1 ai af ap) (w : WS.all (fun q => decide (6 ≤ q.2)) = true) (w13 : (1, 13) ∉ WS) (h13 : tt_at pl h1 13 (.int (nI x))) (hM : rl_M B1 C1 pl1 h1 aw ap) (hC : C1 ≤ 5000 * (n : Int) + 5000) (hB0 : 12760000000 ≤ B) (hB1 : B ≤ B1) (hBF : B + 3000000 * (x : Int) ≤ 12800000000 + 60000000 * (n : Int)) (hB2 : B1 ≤ B + 30000000) : rw_R cA (n + 1) h1 x pl1 :=
  rw_R.go hk hok hf hm w (hf.at hk.1 (by decide) w13 h13) hM hC hB0 hB1 hBF (by omega)
