theorem tt_xc.app {a b : va_W} {o : Nat} {x : (Nat → Int64) ⊕ (Nat → Int32)} (h : tt_xc b o x) : tt_xc (a ++ b) o x := by
  cases x with
  | inl f => obtain ⟨i, n, c0, h1⟩ := h; exact ⟨a.length + i, n, c0, by rw [List.getElem?_append_right (Nat.le_add_right _ _), Nat.add_sub_cancel_left]; exact h1⟩
  | inr f => obtain ⟨i, n, c0, h1⟩ := h; exact ⟨a.length + i, n, c0, by rw [List.getElem?_append_right (Nat.le_add_right _ _), Nat.add_sub_cancel_left]; exact h1⟩
section TA2
variable {p : Program} {l : Launch} {e : Env} {R : Room} {s : State} {m : MethodId} {args : Array Value} {below : List Frame} {meth : Method} {c : Code}
variable {nL : Nat} {A : Nat → Prop} {Q : State → Prop} {cells slots pc : Nat} {lv : List (Nat × Value)} {st rest : List Value} {cc : ByteArray} {own : String} {ret : Option FieldType} {D : va_G} {cA : Nat → ClassId} {ak : (Nat → Nat) × (Nat → Nat)} {X X2 pl cx wr wt w1 : va_W} {K Kn : Nat → Nat} {mc ms : Nat} {O : va_W → Option Value → Prop}
theorem tl_prom {q k : Nat} {ce : va_E} (X : va_W) (hX : X ++ [(q, ce)] = X2) (hok : tt_ok tt_tk cA K pl) (hE : ∀ K1 : Nat → Nat, tt_ex K K1 → K1 q = k → tt_E cA K1 (tt_tk k) ce) (kk : ∀ (K1 : Nat → Nat) (pl1 : va_W), tt_ok tt_tk cA K1 pl1 → tt_ex K K1 → K1 q = k → (∀ (b j : Nat) (v : Value), tt_at pl b j v → tt_at pl1 b j v) → (∀ (ci j : Nat) (fs : List Value) (v : Value), ce = .inr (ci, fs) → fs[j]? = some v → tt_at pl1 q j v) → (∀ (b : Nat) (x : (Nat → Int64) ⊕ (Nat → Int32)), tt_xc pl b x → tt_xc pl1 b x) → jj_J p l e R s m args below meth c nL A Q (jj_X D A (X ++ pl1)) cells slots pc lv st) : jj_J p l e R s m args below meth c nL A Q (jj_X D A (X2 ++ pl)) cells slots pc lv st := by
  subst hX
  intro H locs ls hW hS hl
  obtain ⟨K1, h1, h2, h3⟩ := tt_ok.one hW.2 hok hE
  have e1 : (X ++ [(q, ce)]) ++ pl = X ++ ((q, ce) :: pl) := by rw [List.append_assoc]; rfl
  rw [e1] at hW
  exact kk K1 ((q, ce) :: pl) h1 h2 h3 (fun b j v h => tt_at.app (a := [(q, ce)]) h) (fun ci j fs v g1 g2 => ⟨0, ci, fs, by rw [g1]; rfl, g2⟩) (fun b x h => tt_xc.app (a := [(q, ce)]) h) H locs ls hW hS hl
theorem tl_merge (hok : tt_ok tt_tk cA K pl) (hok1 : tt_ok tt_tk cA Kn w1) (kk : ∀ (K1 : Nat → Nat) (pl1 : va_W), tt_ok tt_tk cA K1 pl1 → tt_ex K K1 → tt_ex Kn K1 → (∀ (b j : Nat) (v : Value), tt_at pl b j v → tt_at pl1 b j v) → (∀ (b j : Nat) (v : Value), tt_at w1 b j v → tt_at pl1 b j v) → (∀ (b : Nat) (x : (Nat → Int64) ⊕ (Nat → Int32)), tt_xc pl b x → tt_xc pl1 b x) → jj_J p l e R s m args below meth c nL A Q (jj_X D A (wr ++ pl1)) cells slots pc lv st) : jj_J p l e R s m args below meth c nL A Q (jj_X D A ((wr ++ w1) ++ pl)) cells slots pc lv st := by
  intro H locs ls hW hS hl
  obtain ⟨K1, h1, h2, h3⟩ := tt_ok.two hW.2 hok hok1
  rw [List.append_assoc] at hW
  exact kk K1 (w1 ++ pl) h1 h2 h3 (fun b j v h => tt_at.app h) (fun b j v h => tt_at.appL h) (fun b x h => tt_xc.app h) H locs ls hW hS hl
end TA2
