section RZ
variable {p : Program} {l : Launch} {e : Env} {R : Room} {s : State} {m : MethodId} {args : Array Value} {below : List Frame} {meth : Method} {c : Code}
variable {nL : Nat} {A : Nat → Prop} {Q : State → Prop} {cells slots pc : Nat} {lv : List (Nat × Value)} {st rest : List Value} {cc : ByteArray} {own : String} {ret : Option FieldType} {D : va_G} {cA : Nat → ClassId} {ak : (Nat → Nat) × (Nat → Nat)} {X pl cx wr : va_W} {tk : Nat → tt_K} {Kd : Nat → Nat} {mc ms : Nat}
/-- a boolean is read of a row whose contents are known -/
theorem rl_zald (C : jj_C p l s m args meth c cc nL own ret D cA A ak) (hok : tt_ok tk cA Kd pl) {a kn n : Nat} {t : tt_T} (ha : Kd a = kn) (hn : kn ≠ 0) (htk : tk kn = (1, 3, n, [t])) {i : Int32} {f : Nat → Int32} {k : Nat} (hin : vp_in i n) (hf : tt_ic pl a f) (hk : i.toNatClampNeg = k) (hd : decode cc pc = .ok (.baload, 1)) (kk : jj_J p l e R s m args below meth c nL A Q (jj_X D A (X ++ pl)) cells slots (pc + 1) lv (.int (f k) :: st)) : jj_J p l e R s m args below meth c nL A Q (jj_X D A (X ++ pl)) cells slots pc lv (.int i :: .ref a :: st) := by
  intro H locs ls hW hS hl
  obtain ⟨j, e9, hi, hE⟩ := hok a (by rw [ha]; exact hn)
  rw [ha, htk] at hE
  obtain ⟨g, rfl, hel⟩ := (show ∃ g : Nat → Int32, e9 = .inl (cA 3, n, .inl g) ∧ ∀ j : Nat, j < n → tt_V Kd t (.int (g j)) from hE)
  obtain ⟨j2, n2, c2, h2⟩ := hf
  obtain ⟨rfl, h3⟩ := tt_one hW.2 hi h2
  cases h3
  subst hk
  exact jj_zald C (X.length + j) (tt_pos hi) hin rfl hd kk H locs ls hW hS hl
end RZ
