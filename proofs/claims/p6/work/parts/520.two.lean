/-! TWO POOLS: the class's and the model's, beside the law's own two arrays -/
theorem rz_pko {α : Type} : ∀ {is : List Nat} {ws wt : List α}, is.map (fun i => ws[i]?) = wt.map some → jj_pk is ws = some wt
  | [], ws, wt, h => by
    cases wt with
    | nil => rfl
    | cons a l => simp at h
  | i :: is, ws, wt, h => by
    cases wt with
    | nil => simp at h
    | cons a l =>
      rw [List.map_cons, List.map_cons] at h
      have h1 : ws[i]? = some a := (List.cons.inj h).1
      have h2 := rz_pko (List.cons.inj h).2
      unfold jj_pk
      rw [h1, h2]
theorem rz_pkr {α : Type} (X : List α) : jj_pk (List.range X.length) X = some X := rz_pko (by
  refine List.ext_getElem? fun k => ?_
  rw [List.getElem?_map, List.getElem?_map]
  by_cases hk : k < X.length
  · rw [List.getElem?_range hk]
    show some X[k]? = _
    rw [List.getElem?_eq_getElem hk]; rfl
  · rw [List.getElem?_eq_none (by rw [List.length_range]; omega), List.getElem?_eq_none (by omega)]; rfl)
theorem rz_ndo : ∀ {l : List Nat}, l.Nodup → va_nd l = true
  | [], _ => rfl
  | a :: l, h => by
    have h2 := List.nodup_cons.mp h
    unfold va_nd
    rw [rz_ndo h2.2, Bool.and_true]
    exact decide_eq_true h2.1
theorem rz_ndr (n : Nat) : va_nd (List.range n) = true := rz_ndo List.nodup_range
/-- the places behind the first ones -/
theorem rz_pkd {α : Type} (a r : List α) : jj_pk (List.range' a.length r.length) (a ++ r) = some r := rz_pko (by
  refine List.ext_getElem? fun k => ?_
  rw [List.getElem?_map, List.getElem?_map]
  by_cases hk : k < r.length
  · rw [List.getElem?_range' hk]
    show some (a ++ r)[a.length + 1 * k]? = _
    rw [Nat.one_mul, List.getElem?_append_right (by omega), Nat.add_sub_cancel_left, List.getElem?_eq_getElem hk]; rfl
  · rw [List.getElem?_eq_none (by rw [List.length_range']; omega), List.getElem?_eq_none (by omega)]; rfl)
theorem rz_ndd (a n : Nat) : va_nd (List.range' a n) = true := rz_ndo ((List.nodup_range' ..))
theorem rz_pk1 {α : Type} (a : α) (r : List α) : jj_pk (List.range' 1 r.length) (a :: r) = some r := rz_pkd [a] r
theorem rz_dis1 {n : Nat} : ∀ i ∈ List.range' 1 n, i ∉ [0] := fun i hi h => by
  have h1 := (List.mem_range'_1.mp hi).1
  have h2 : i = 0 := List.mem_singleton.mp h
  omega
/-- the second of the two first goes: what is left -/
theorem rz_pk2 {α : Type} (a b : α) (r : List α) : jj_pk (0 :: List.range' 2 r.length) (a :: b :: r) = some (a :: r) := by
  have h := rz_pkd [a, b] r
  unfold jj_pk
  have h2 : jj_pk (List.range' 2 r.length) (a :: b :: r) = some r := h
  rw [h2]; rfl
theorem rz_nd2 (n : Nat) : va_nd (0 :: List.range' 2 n) = true := rz_ndo (List.nodup_cons.mpr ⟨fun h => by have := (List.mem_range'_1.mp h).1; omega, (List.nodup_range' ..)⟩)
theorem rz_dis2 {n : Nat} : ∀ i ∈ 0 :: List.range' 2 n, i ∉ [1] := fun i hi h => by
  have h2 : i = 1 := List.mem_singleton.mp h
  rcases List.mem_cons.mp hi with h1 | h1
  · omega
  · have := (List.mem_range'_1.mp h1).1; omega
theorem rz_dis0 {l : List Nat} : ∀ i ∈ l, i ∉ ([] : List Nat) := fun _ _ h => by cases h
section TW
variable {p : Program} {l : Launch} {e : Env} {R : Room} {s : State} {m : MethodId} {args : Array Value} {below : List Frame} {meth : Method} {c : Code}
variable {nL : Nat} {A : Nat → Prop} {Q : State → Prop} {cells slots pc : Nat} {lv : List (Nat × Value)} {st : List Value} {D : va_G} {X pl : va_W}
theorem tt_nilr (kk : jj_J p l e R s m args below meth c nL A Q (jj_X D A (X ++ pl)) cells slots pc lv st) : jj_J p l e R s m args below meth c nL A Q (jj_X D A ((X ++ []) ++ pl)) cells slots pc lv st := by rw [List.append_nil]; exact kk
/-- a cell behind the others comes to their head -/
theorem tt_rot {a : Nat × va_E} (kk : jj_J p l e R s m args below meth c nL A Q (jj_X D A ((a :: X) ++ pl)) cells slots pc lv st) : jj_J p l e R s m args below meth c nL A Q (jj_X D A ((X ++ [a]) ++ pl)) cells slots pc lv st := by
  refine tt_perm (X2 := a :: X) (X.length :: List.range X.length) ?_ (rz_ndo (List.nodup_cons.mpr ⟨fun h => by have := List.mem_range.mp h; omega, List.nodup_range⟩)) kk
  have h : jj_pk (List.range X.length) (X ++ [a]) = some X := rz_pko (by
    refine List.ext_getElem? fun k => ?_
    rw [List.getElem?_map, List.getElem?_map]
    by_cases hk : k < X.length
    · rw [List.getElem?_range hk]
      show some (X ++ [a])[k]? = _
      rw [List.getElem?_append_left hk, List.getElem?_eq_getElem hk]; rfl
    · rw [List.getElem?_eq_none (by rw [List.length_range]; omega), List.getElem?_eq_none (by omega)]; rfl)
  unfold jj_pk
  rw [h, List.getElem?_append_right (Nat.le_refl _), Nat.sub_self]
  rfl
/-- a cell behind the others comes to the second place -/
theorem tt_rot2 {a b : Nat × va_E} (kk : jj_J p l e R s m args below meth c nL A Q (jj_X D A ((b :: a :: X) ++ pl)) cells slots pc lv st) : jj_J p l e R s m args below meth c nL A Q (jj_X D A (((b :: X) ++ [a]) ++ pl)) cells slots pc lv st := by
  refine tt_rot (X := b :: X) (a := a) ?_
  refine tt_perm (X2 := b :: a :: X) (1 :: 0 :: List.range' 2 X.length) ?_ (rz_ndo (List.nodup_cons.mpr ⟨fun h => ?_, List.nodup_cons.mpr ⟨fun h => ?_, (List.nodup_range' ..)⟩⟩)) kk
  · have h := rz_pkd [a, b] X
    have h2 : jj_pk (List.range' 2 X.length) (a :: b :: X) = some X := h
    unfold jj_pk
    have h3 : jj_pk (0 :: List.range' 2 X.length) (a :: b :: X) = some (a :: X) := rz_pk2 a b X
    rw [h3]; rfl
  · rcases List.mem_cons.mp h with h1 | h1
    · omega
    · have := (List.mem_range'_1.mp h1).1; omega
  · have := (List.mem_range'_1.mp h).1; omega
end TW
/-- the kinds of cells, by their places -/
def rl_K0 : va_W → List Nat → Nat → Nat
  | (q, _) :: ws, k :: ks, a => if a = q then k else rl_K0 ws ks a
  | _, _, _ => 0
theorem rl_K0_ok : ∀ {ws : va_W} {ks : List Nat} {a : Nat}, rl_K0 ws ks a ≠ 0 → ∃ (i : Nat) (e : va_E), ws[i]? = some (a, e) ∧ ks[i]? = some (rl_K0 ws ks a)
  | [], _, a, h => absurd rfl h
  | _ :: _, [], a, h => absurd rfl h
  | (q, e) :: ws, k :: ks, a, h => by
    by_cases ha : a = q
    · subst ha
      refine ⟨0, e, rfl, ?_⟩
      show some k = some (if a = a then k else rl_K0 ws ks a)
      rw [if_pos rfl]
    · have e1 : rl_K0 ((q, e) :: ws) (k :: ks) a = rl_K0 ws ks a := if_neg ha
      rw [e1] at h ⊢
      obtain ⟨i, e2, h1, h2⟩ := rl_K0_ok h
      exact ⟨i + 1, e2, h1, h2⟩
theorem rl_K0_at : ∀ {ws : va_W} {ks : List Nat} {i a k : Nat} {e : va_E}, (∀ (i j : Nat) (a : Nat) (e f : va_E), ws[i]? = some (a, e) → ws[j]? = some (a, f) → i = j) → ws[i]? = some (a, e) → ks[i]? = some k → rl_K0 ws ks a = k
  | [], _, i, a, k, e, _, h, _ => by simp at h
  | _ :: _, [], i, a, k, e, _, _, h => by simp at h
  | (q, e1) :: ws, k1 :: ks, i, a, k, e, hd, h, hk => by
    by_cases ha : a = q
    · subst ha
      have h0 : i = 0 := hd i 0 a e e1 h rfl
      subst h0
      have e2 : rl_K0 ((a, e1) :: ws) (k1 :: ks) a = k1 := if_pos rfl
      rw [e2]
      exact Option.some.inj hk
    · have e2 : rl_K0 ((q, e1) :: ws) (k1 :: ks) a = rl_K0 ws ks a := if_neg ha
      rw [e2]
      cases i with
      | zero => exact absurd (congrArg Prod.fst (Option.some.inj h)).symm ha
      | succ i => exact rl_K0_at (fun i j a e f h1 h2 => Nat.succ.inj (hd (i + 1) (j + 1) a e f h1 h2)) h hk
theorem rl_dist {A : Nat → Prop} {X pl : va_W} (hD : va_D A (X ++ pl)) : ∀ (i j : Nat) (a : Nat) (e f : va_E), pl[i]? = some (a, e) → pl[j]? = some (a, f) → i = j := fun i j a e f h1 h2 => (tt_one hD h1 h2).1
theorem rl_K0_tt {tk : Nat → tt_K} {cA : Nat → ClassId} {ws : va_W} {ks : List Nat} (h : ∀ (i k : Nat) (a : Nat) (e : va_E), ws[i]? = some (a, e) → ks[i]? = some k → tt_E cA (rl_K0 ws ks) (tk k) e) : tt_ok tk cA (rl_K0 ws ks) ws := fun a ha => by
  obtain ⟨i, e, h1, h2⟩ := rl_K0_ok ha
  exact ⟨i, e, h1, h i _ a e h1 h2⟩
