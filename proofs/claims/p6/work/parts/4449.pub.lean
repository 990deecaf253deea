theorem rl_K.dQ {B C : Int} {f : Nat → Int64} (h : rl_K B C f) {r : Nat} (hr : r < rnR f) : rl_K B C (rg_dQ f r) := by
  have h8 := h.1.1.1.2.2.2.2
  have q := h.1.dQ hr
  have el : ∀ i : Nat, i < 286 + 4 * r → i ≠ 8 → rg_dQ f r i = f i := fun i a b => by unfold rg_dQ; rw [rl_ne b rfl, rg_sh_out (by omega)]
  exact ⟨q.1, h.2.1.of2 h.1 (el 6 (by omega) (by decide)) (el 7 (by omega) (by decide)) (fun i a b => el i (by omega) (by omega)), by rw [el 9 (by omega) (by decide)]; exact h.2.2⟩
theorem rl_K.gate {B C : Int} {f : Nat → Int64} (h : rl_K B C f) {v : Int64} (hv : 0 ≤ v.toInt ∧ v.toInt ≤ 100) : rl_K B C (vp_updL f 4 v) := by
  have q := h.1.hdr (g := vp_updL f 4 v) (fun i a _ _ => rl_ne a rfl) (by rw [rl_eq rfl]; exact hv)
  exact ⟨q.1, h.2.1.of2 h.1 (rl_ne (by decide) rfl) (rl_ne (by decide) rfl) (fun i a b => rl_ne (by omega) rfl), by rw [show vp_updL f 4 v 9 = f 9 from rl_ne (by decide) rfl]; exact h.2.2⟩
theorem rl_TR.K {B C : Int} {f g : Nat → Int64} {i : Int64} {k : Nat} {left : Int64} (h : rl_TR B f g i k left) (hK : rl_K B C f) : rl_K B C g := ⟨h.1, h.2.1, by rw [h.2.2.2.1 9 (by omega)]; exact hK.2.2⟩
