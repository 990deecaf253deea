/-! doubles: the quotient of two whole numbers is no NaN -/
theorem jt_n64 {r : UInt64} (h : FP.Core.dIsNaN r = false) : vf_n64 r := by
  have h1 : ¬ 9218868437227405312 < r.toNat % 2 ^ 63 := fun z => by
    have := (FP.Core.isNaN_bits r).mpr z
    rw [h] at this; cases this
  have h2 : (r &&& 0x7fffffffffffffff).toNat = r.toNat % 2 ^ 63 := by
    rw [UInt64.toNat_and, show (0x7fffffffffffffff : UInt64).toNat = 2 ^ 63 - 1 from by decide, Nat.and_two_pow_sub_one_eq_mod]
  unfold vf_n64
  refine UInt64.le_iff_toNat_le.mpr ?_
  rw [h2, show (0x7ff0000000000000 : UInt64).toNat = 9218868437227405312 from by decide]
  omega
section TD
variable {p : Program} {l : Launch} {e : Env} {R : Room} {s : State} {m : MethodId} {args : Array Value} {below : List Frame} {meth : Method} {c : Code}
variable {nL : Nat} {A : Nat → Prop} {Q : State → Prop} {Wd : Heap → Prop} {cells slots pc : Nat} {lv : List (Nat × Value)} {st : List Value} {cc : ByteArray} {own : String} {ret : Option FieldType} {D : va_G} {cA : Nat → ClassId} {ak : (Nat → Nat) × (Nat → Nat)}
theorem jt_l2d (C : jj_C p l s m args meth c cc nL own ret D cA A ak) {x : Int64} (hd : decode cc pc = .ok (.l2d, 1)) (kk : jj_J p l e R s m args below meth c nL A Q Wd cells slots (pc + 1) lv (.double (FP.l2d x) :: st)) : jj_J p l e R s m args below meth c nL A Q Wd cells slots pc lv (.long x :: st) := fun H locs ls hW hS hl => lv_l2d C.1 C.2.1 hd (kk H locs ls hW hS hl)
theorem jt_ddiv (C : jj_C p l s m args meth c cc nL own ret D cA A ak) {x y : Int64} (hy : ¬ y = 0) (hd : decode cc pc = .ok (.ddiv, 1)) (kk : ∀ r : UInt64, jj_J p l e R s m args below meth c nL A Q Wd cells slots (pc + 1) lv (.double r :: st)) : jj_J p l e R s m args below meth c nL A Q Wd cells slots pc lv (.double (FP.l2d y) :: .double (FP.l2d x) :: st) := fun H locs ls hW hS hl => lv_ddiv C.1 C.2.1 hd (jt_n64 (jt_notNaN x y hy)) (kk _ H locs ls hW hS hl)
end TD
