theorem jw_6264dacbef : Cond.laysFinal RJ0 "java/lang/String" "value" "[B" ∈ jj_G := jj_t5 (List.mem_of_getElem? (i := 38) (by decide +kernel)) rfl
theorem jw_a4ebd4b606 : Cond.laysFinal RJ0 "java/lang/String" "coder" "B" ∈ jj_G := jj_t5 (List.mem_of_getElem? (i := 40) (by decide +kernel)) rfl
theorem ju_0 : ∀ w ∈ u_ws RJ0 TJ0 2, w ∈ jj_G := by
  intro w hw
  obtain ⟨k, hk, rfl⟩ := List.mem_map.mp hw
  have hk := List.mem_range.mp hk
  match k, hk with
  | 0, _ => exact jw_6264dacbef
  | 1, _ => exact jw_a4ebd4b606
  | n + 2, hk => exact absurd hk (by omega)
theorem jw_966bdd5a7c : Cond.lays RJx00060 "java/lang/Throwable" "backtrace" "Ljava/lang/Object;" ∈ jj_G := jj_t5 (List.mem_of_getElem? (i := 26) (by decide +kernel)) rfl
theorem jw_42e6f8699d : Cond.lays RJx00060 "java/lang/Throwable" "detailMessage" "Ljava/lang/String;" ∈ jj_G := jj_t5 (List.mem_of_getElem? (i := 27) (by decide +kernel)) rfl
theorem jw_93b106b6ae : Cond.lays RJx00060 "java/lang/Throwable" "cause" "Ljava/lang/Throwable;" ∈ jj_G := jj_t5 (List.mem_of_getElem? (i := 28) (by decide +kernel)) rfl
theorem jw_38ce8d56f9 : Cond.lays RJx00060 "java/lang/Throwable" "stackTrace" "[Ljava/lang/StackTraceElement;" ∈ jj_G := jj_t5 (List.mem_of_getElem? (i := 29) (by decide +kernel)) rfl
theorem jw_0646c5dc4c : Cond.lays RJx00060 "java/lang/Throwable" "depth" "I" ∈ jj_G := jj_t5 (List.mem_of_getElem? (i := 30) (by decide +kernel)) rfl
theorem jw_9fdf1816d8 : Cond.lays RJx00060 "java/lang/Throwable" "suppressedExceptions" "Ljava/util/List;" ∈ jj_G := jj_t5 (List.mem_of_getElem? (i := 31) (by decide +kernel)) rfl
theorem ju_1 : ∀ w ∈ u_ws RJx00060 TJx00060 6, w ∈ jj_G := by
  intro w hw
  obtain ⟨k, hk, rfl⟩ := List.mem_map.mp hw
  have hk := List.mem_range.mp hk
  match k, hk with
  | 0, _ => exact jw_966bdd5a7c
  | 1, _ => exact jw_42e6f8699d
  | 2, _ => exact jw_93b106b6ae
  | 3, _ => exact jw_38ce8d56f9
  | 4, _ => exact jw_0646c5dc4c
  | 5, _ => exact jw_9fdf1816d8
  | n + 6, hk => exact absurd hk (by omega)

/-! the context of the law, out of the start -/
abbrev jj_fl : List Cond := flatC (Cond.and given_1 narrow_1)
theorem jj_v1 {w : Cond} (h : w ∈ tables_1_1) : w ∈ lw_tbl := List.mem_append_right _ (List.mem_append_left _ h)
theorem jj_v2 {w : Cond} (h : w ∈ tables_1_2) : w ∈ lw_tbl := List.mem_append_right _ (List.mem_append_right _ (List.mem_append_left _ h))
theorem jj_v3 {w : Cond} (h : w ∈ tables_1_3) : w ∈ lw_tbl := List.mem_append_right _ (List.mem_append_right _ (List.mem_append_right _ (List.mem_append_left _ h)))
theorem jj_v4 {w : Cond} (h : w ∈ tables_1_4) : w ∈ lw_tbl := List.mem_append_right _ (List.mem_append_right _ (List.mem_append_right _ (List.mem_append_right _ (List.mem_append_left _ h))))
theorem jj_v5 {w : Cond} (h : w ∈ tables_1_5) : w ∈ lw_tbl := List.mem_append_right _ (List.mem_append_right _ (List.mem_append_right _ (List.mem_append_right _ (List.mem_append_right _ (List.mem_append_left _ h)))))
theorem jj_v6 {w : Cond} (h : w ∈ tables_1_6) : w ∈ lw_tbl := List.mem_append_right _ (List.mem_append_right _ (List.mem_append_right _ (List.mem_append_right _ (List.mem_append_right _ (List.mem_append_right _ (List.mem_append_left _ h))))))
theorem jj_v7 {w : Cond} (h : w ∈ tables_1_7) : w ∈ lw_tbl := List.mem_append_right _ (List.mem_append_right _ (List.mem_append_right _ (List.mem_append_right _ (List.mem_append_right _ (List.mem_append_right _ (List.mem_append_right _ (List.mem_append_left _ h)))))))
theorem jj_v8 {w : Cond} (h : w ∈ tables_1_8) : w ∈ lw_tbl := List.mem_append_right _ (List.mem_append_right _ (List.mem_append_right _ (List.mem_append_right _ (List.mem_append_right _ (List.mem_append_right _ (List.mem_append_right _ (List.mem_append_right _ (List.mem_append_left _ h))))))))
theorem jj_v9 {w : Cond} (h : w ∈ tables_1_9) : w ∈ lw_tbl := List.mem_append_right _ (List.mem_append_right _ (List.mem_append_right _ (List.mem_append_right _ (List.mem_append_right _ (List.mem_append_right _ (List.mem_append_right _ (List.mem_append_right _ (List.mem_append_right _ h))))))))
abbrev jj_so : List (String × Nat × String) := [("SeriesFund$FundText", 38, "fund"), ("SeriesFund$FundText", 71, "equal"), ("SeriesFund$FundText", 79, "series"), ("SeriesFund$FundText", 85, "investors"), ("SeriesFund$FundText", 92, "subscribe"), ("SeriesFund$Script", 56, "subscribe"), ("SeriesFund$Script", 62, "redeem"), ("SeriesFund$Script", 64, "deal"), ("SeriesFund$Script", 66, "gain"), ("SeriesFund$Script", 68, "lose"), ("SeriesFund$Script", 70, "pass"), ("SeriesFund$Script", 72, "crystallize"), ("SeriesFund$Script", 74, "merge"), ("SeriesFund$Report", 22, "day "), ("SeriesFund$Report", 98, "-"), ("SeriesFund$Report", 37, " assets "), ("SeriesFund$Report", 43, "\n"), ("SeriesFund$Report", 56, "series "), ("SeriesFund$Report", 63, " "), ("SeriesFund$Report", 83, ":"), ("SeriesFundModel", 351, "fund"), ("SeriesFundModel", 357, "equal"), ("SeriesFundModel", 359, "series"), ("SeriesFundModel", 367, ";"), ("SeriesFundModel", 369, "investors"), ("SeriesFundModel", 371, "subscribe"), ("SeriesFundModel", 382, "redeem"), ("SeriesFundModel", 384, "deal"), ("SeriesFundModel", 386, "gain"), ("SeriesFundModel", 387, "lose"), ("SeriesFundModel", 389, "pass"), ("SeriesFundModel", 390, "crystallize"), ("SeriesFundModel", 392, "merge"), ("SeriesFundModel", 468, "day "), ("SeriesFundModel", 470, " assets "), ("SeriesFundModel", 463, "series "), ("SeriesFund", 62, "the text buffer is full"), ("SeriesFund", 73, "no such length"), ("SeriesFund", 198, "there is no such number"), ("SeriesFund", 201, "an argument is out of its range"), ("SeriesFund", 203, "this cannot be done now"), ("SeriesFund", 174, "no such gate"), ("SeriesFund", 236, "no such count"), ("SeriesFund", 242, "no such account"), ("SeriesFund", 248, "no such index"), ("SeriesFund", 286, "no such value"), ("SeriesFund", 288, "no such lot"), ("SeriesFund", 331, "the investors have no value"), ("SeriesFund", 360, "no such rate"), ("SeriesFund", 371, "no rate reaches the mark"), ("SeriesFund", 383, "no rate reaches the value"), ("SeriesFund", 388, "no such assets"), ("SeriesFund", 396, "no such byte"), ("SeriesFund", 402, "there is nothing to undo")]
abbrev jj_tm (i : Nat) : Term := .string (jj_so.getD i ("", 0, "")).1 (jj_so.getD i ("", 0, "")).2.1
abbrev jj_px : List Nat := [90, 98, 107, 117, 130, 143, 157, 167, 175, 183, 191, 199, 214, 223, 231, 236, 248, 253, 264, 269, 675, 684, 694, 705, 710, 724, 739, 750, 759, 768, 777, 786, 802, 812, 821, 834, 274, 301, 319, 346, 381, 408, 424, 441, 460, 477, 494, 509, 540, 556, 584, 613, 631, 647]
abbrev jj_pc : List Nat := [91, 99, 108, 118, 131, 144, 158, 168, 176, 184, 192, 200, 215, 224, 232, 237, 249, 254, 265, 270, 676, 685, 695, 706, 711, 725, 740, 751, 760, 769, 778, 787, 803, 813, 822, 835]
abbrev jj_pa : List Nat := [92, 100, 109, 119, 132, 145, 159, 169, 177, 185, 193, 201, 216, 225, 233, 238, 250, 255, 266, 271, 677, 686, 696, 707, 712, 726, 741, 752, 761, 770, 779, 788, 804, 814, 823, 836]
abbrev jj_pl : List Nat := [93, 101, 110, 120, 133, 146, 160, 170, 178, 186, 194, 202, 217, 226, 234, 239, 251, 256, 267, 272, 678, 687, 697, 708, 713, 727, 742, 753, 762, 771, 780, 789, 805, 815, 824, 837]
abbrev jj_pe : List (List Nat) := [[94, 95, 96, 97], [102, 103, 104, 105, 106], [111, 112, 113, 114, 115, 116], [121, 122, 123, 124, 125, 126, 127, 128, 129], [134, 135, 136, 137, 138, 139, 140, 141, 142], [147, 148, 149, 150, 151, 152, 153, 154, 155], [161, 162, 163, 164, 165, 166], [171, 172, 173, 174], [179, 180, 181, 182], [187, 188, 189, 190], [195, 196, 197, 198], [203, 204, 205, 206, 207, 208, 209, 210, 211, 212, 213], [218, 219, 220, 221, 222], [227, 228, 229, 230], [235], [240, 241, 242, 243, 244, 245, 246, 247], [252], [257, 258, 259, 260, 261, 262, 263], [268], [273], [679, 680, 681, 682], [688, 689, 690, 691, 692], [698, 699, 700, 701, 702, 703], [709], [714, 715, 716, 717, 718, 719, 720, 721, 722], [728, 729, 730, 731, 732, 733, 734, 735, 736], [743, 744, 745, 746, 747, 748], [754, 755, 756, 757], [763, 764, 765, 766], [772, 773, 774, 775], [781, 782, 783, 784], [790, 791, 792, 793, 794, 795, 796, 797, 798, 799, 800], [806, 807, 808, 809, 810], [816, 817, 818, 819], [825, 826, 827, 828, 829, 830, 831, 832], [838, 839, 840, 841, 842, 843, 844]]
abbrev jj_ps : List (Nat × Nat) := [(2, 165), (3, 2), (3, 3), (3, 16), (3, 21), (4, 5), (4, 7), (4, 8), (4, 9), (4, 10), (4, 11), (4, 12), (4, 13), (4, 104), (4, 119), (4, 125), (4, 127), (4, 132), (4, 133), (4, 144), (8, 70), (8, 89), (8, 90), (8, 96), (8, 97), (8, 102), (8, 123), (8, 124), (8, 125), (8, 126), (8, 127), (8, 128), (8, 129), (9, 31), (9, 45), (9, 50), (4, 201), (5, 8), (5, 59), (5, 63), (5, 64), (5, 141), (5, 149), (5, 157), (5, 165), (5, 185), (5, 193), (6, 26), (6, 60), (6, 80), (6, 112), (6, 120), (6, 135), (6, 143)]
abbrev jj_tb (k : Nat) : List Cond := match k with
  | 1 => tables_1_1
  | 2 => tables_1_2
  | 3 => tables_1_3
  | 4 => tables_1_4
  | 5 => tables_1_5
  | 6 => tables_1_6
  | 7 => tables_1_7
  | 8 => tables_1_8
  | _ => tables_1_9
theorem jj_vt : ∀ {k : Nat} {w : Cond}, w ∈ jj_tb k → w ∈ lw_tbl := by
  intro k w h
  match k, h with
  | 1, h => exact jj_v1 h
  | 2, h => exact jj_v2 h
  | 3, h => exact jj_v3 h
  | 4, h => exact jj_v4 h
  | 5, h => exact jj_v5 h
  | 6, h => exact jj_v6 h
  | 7, h => exact jj_v7 h
  | 8, h => exact jj_v8 h
  | 0, h => exact jj_v9 h
  | k + 9, h => exact jj_v9 h
theorem jj_w1 : ∀ i, i < 54 → jj_fl[jj_px.getD i 0]? = some (Cond.exactly (jj_tm i) "java/lang/String") := by decide +kernel
theorem jj_w2 : ∀ i, i < 36 → jj_fl[jj_pc.getD i 0]? = some (Cond.eq (.field (jj_tm i) "java/lang/String" "coder" "B") (.int 0)) := by decide +kernel
theorem jj_w3 : ∀ i, i < 36 → jj_fl[jj_pa.getD i 0]? = some (Cond.arrayOf (.field (jj_tm i) "java/lang/String" "value" "[B") .byte) := by decide +kernel
theorem jj_w4 : ∀ i, i < 36 → jj_fl[jj_pl.getD i 0]? = some (Cond.eq (.length (.field (jj_tm i) "java/lang/String" "value" "[B")) (.int (Int32.ofNat (jj_len.getD i 0)))) := by decide +kernel
theorem jj_w5 : ∀ i, i < 36 → ∀ j, j < jj_len.getD i 0 → jj_fl[(jj_pe.getD i []).getD j 0]? = some (Cond.eq (.elem (.field (jj_tm i) "java/lang/String" "value" "[B") (.int (Int32.ofNat j))) (.int ((jj_byt.getD i []).getD j 0))) := by decide +kernel
theorem jj_w6 : ∀ i, i < 54 → (jj_tb (jj_ps.getD i (0, 0)).1)[(jj_ps.getD i (0, 0)).2]? = some (Cond.stringRef (jj_so.getD i ("", 0, "")).1 (jj_so.getD i ("", 0, "")).2.1 (jj_so.getD i ("", 0, "")).2.2) := by decide +kernel
theorem jj_w7 : ∀ q ∈ jj_str, q.2.2.2 < 54 ∧ jj_so[q.2.2.2]? = some (q.1, q.2.1, q.2.2.1) := by decide +kernel
theorem jj_w8 : ∀ i, i < 36 → jj_len.getD i 0 < 2 ^ 31 := by decide +kernel
theorem jj_strs {args : Array Value} {s : State} {A : Nat → Prop} (hf : ∀ w ∈ jj_fl, w.before args s = true) (hA : ∀ a : Nat, a < s.heap.size → ¬ A a) : ∃ ak : (Nat → Nat) × (Nat → Nat), jj_S jj_n jj_len jj_byt ak A s s.heap ∧ ∀ i : Nat, i < 54 → (jj_tm i).eval args s none [] s = some (.ref (ak.1 i)) := by
  have h0 : ∀ i : Nat, ∃ q : Nat × Nat, (i < 54 → (jj_tm i).eval args s none [] s = some (.ref q.1)) ∧ (i < 36 → va_O "java/lang/String" q.1 A s s.heap ∧ va_OF "java/lang/String" "coder" "B" (.int 0) q.1 A s s.heap ∧ va_OF "java/lang/String" "value" "[B" (.ref q.2) q.1 A s s.heap ∧ va_T .byte q.2 (jj_len.getD i 0) (fun j => .int ((jj_byt.getD i []).getD j 0)) A s s.heap) := by
    intro i
    by_cases hi : i < 54
    · have hx := hf _ (List.mem_of_getElem? (jj_w1 i hi))
      obtain ⟨a, c, cA, kA, q1, q2, q3, q4, q5, q6, -⟩ := Cond.exactly_spec (args := args) (first := s) (o := none) (s := s) (idx := []) (t := jj_tm i) (cls := "java/lang/String") hx
      by_cases hn : i < 36
      · obtain ⟨t, ht, hT⟩ := va_Tof (f := fun j => .int ((jj_byt.getD i []).getD j 0)) (A := A) (jj_w8 i hn) (hf _ (List.mem_of_getElem? (jj_w3 i hn))) (va_eqt (hf _ (List.mem_of_getElem? (jj_w4 i hn)))) (fun j hj => va_eqt (hf _ (List.mem_of_getElem? (jj_w5 i hn j hj)))) hA
        exact ⟨(a, t), fun _ => q1, fun _ => ⟨va_Oof hx q1 hA, vk_OFof q1 (va_eqt (hf _ (List.mem_of_getElem? (jj_w2 i hn)))) hA, vk_OFof q1 ht hA, hT⟩⟩
      · exact ⟨(a, 0), fun _ => q1, fun h => absurd h hn⟩
    · exact ⟨(0, 0), fun h => absurd h hi, fun h => absurd (Nat.lt_of_lt_of_le h (by decide)) hi⟩
  obtain ⟨ad, had⟩ := Classical.axiomOfChoice h0
  exact ⟨(fun i => (ad i).1, fun i => (ad i).2), fun i hi => (had i).2 hi, fun i hi => (had i).1 hi⟩
theorem jj_ac {s : State} {args : Array Value} {t : FieldType} (h : (Cond.arrayClass t).before args s = true) (hn : ∀ n, t ≠ .object n) : ∃ c : ClassId, ArrOfT s c t ∧ va_RA s c t := by
  obtain ⟨c, k, comp, h1, h2, h3⟩ := Cond.arrayClass_spec h
  refine ⟨c, fun n z => ⟨fun k h => (by cases h), k, h2, comp, h3⟩, ?_⟩
  cases t with
  | object n => exact absurd rfl (hn n)
  | _ => exact h1
theorem jj_ac2 {s : State} {n : String} (h : va_AO n s) : ∃ c : ClassId, ArrOfT s c (.object n) ∧ va_RA s c (.object n) := by
  obtain ⟨comp, c, k, h1, -, h3, h4, h5⟩ := Cond.arrayOver_spec (args := #[]) (first := s) (o := none) (s := s) (idx := []) h
  exact ⟨c, fun n z => ⟨fun k h => (by cases h), k, h3, comp, h4⟩, k, comp, h3, h4, h1, h5⟩
theorem jj_arr {args : Array Value} {s : State} (hts : ∀ w ∈ lw_tbl, w.before args s = true) (hao : ∀ C ∈ jj_ao, va_AO C s) : ∃ cA : Nat → ClassId, ∀ (k : Nat) (q : ClassId × FieldType), (jj_ty cA)[k]? = some q → ArrOfT s q.1 q.2 ∧ va_RA s q.1 q.2 := by
  obtain ⟨c0, h0⟩ := jj_ac (hts (Cond.arrayClass .byte) (jj_v2 (List.mem_of_getElem? (i := 96) (by decide +kernel)))) (fun n h => by cases h)
  obtain ⟨c1, h1⟩ := jj_ac (hts (Cond.arrayClass .char) (jj_v1 (List.mem_of_getElem? (i := 70) (by decide +kernel)))) (fun n h => by cases h)
  obtain ⟨c2, h2⟩ := jj_ac (hts (Cond.arrayClass .long) (jj_v1 (List.mem_of_getElem? (i := 124) (by decide +kernel)))) (fun n h => by cases h)
  obtain ⟨c3, h3⟩ := jj_ac (hts (Cond.arrayClass .boolean) (jj_v6 (List.mem_of_getElem? (i := 230) (by decide +kernel)))) (fun n h => by cases h)
  obtain ⟨c4, h4⟩ := jj_ac (hts (Cond.arrayClass .double) (jj_v9 (List.mem_of_getElem? (i := 56) (by decide +kernel)))) (fun n h => by cases h)
  obtain ⟨c5, h5⟩ := jj_ac2 (hao RX0 (by decide))
  obtain ⟨c6, h6⟩ := jj_ac2 (hao RX4 (by decide))
  obtain ⟨c7, h7⟩ := jj_ac2 (hao RX6 (by decide))
  obtain ⟨c8, h8⟩ := jj_ac2 (hao RX8 (by decide))
  refine ⟨fun k => [c0, c1, c2, c3, c4, c5, c6, c7, c8].getD k c0, fun k q hq => ?_⟩
  match k, hq with
  | 0, hq => cases hq; exact h0
  | 1, hq => cases hq; exact h1
  | 2, hq => cases hq; exact h2
  | 3, hq => cases hq; exact h3
  | 4, hq => cases hq; exact h4
  | 5, hq => cases hq; exact h5
  | 6, hq => cases hq; exact h6
  | 7, hq => cases hq; exact h7
  | 8, hq => cases hq; exact h8
  | k + 9, hq => simp [jj_ty] at hq
theorem jj_cls0 {args : Array Value} {s : State} (hts : ∀ w ∈ lw_tbl, w.before args s = true) : ∃ D : va_G, ∀ (k : Nat) (q : vw_C), vwCl[k]? = some q → u_Kn s q.1 q.2.1 q.2.2 (D.1 k) (D.2 k) := by
  have hj : ∀ w ∈ jj_G, w ∈ lw_tbl := fun w h => (List.mem_filter.mp h).1
  obtain ⟨c0, i0, k0⟩ := u_known (C := RJ0) (T := TJ0) (N := 2) (n := 4) hts (fun w h => hj w (ju_0 w h)) (hts (.instantiable RJ0 4) (jj_v5 (List.mem_of_getElem? (i := 37) (by decide +kernel))))
  obtain ⟨c1, i1, k1⟩ := u_known (C := RJx00060) (T := TJx00060) (N := 6) (n := 6) hts (fun w h => hj w (ju_1 w h)) (hts (.instantiable RJx00060 6) (jj_v5 (List.mem_of_getElem? (i := 19) (by decide +kernel))))
  obtain ⟨c2, i2, k2⟩ := u_known (C := RX0) (T := TX0) (N := 14) (n := 14) hts (fun w h => hj w (ju_2 w h)) (hts (.instantiable RX0 14) (jj_v1 (List.mem_of_getElem? (i := 72) (by decide +kernel))))
  obtain ⟨c3, i3, k3⟩ := u_known (C := RX1) (T := TX1) (N := 6) (n := 6) hts (fun w h => hj w (ju_3 w h)) (hts (.instantiable RX1 6) (jj_v2 (List.mem_of_getElem? (i := 51) (by decide +kernel))))
  obtain ⟨c4, i4, k4⟩ := u_known (C := RX3) (T := TX3) (N := 3) (n := 3) hts (fun w h => hj w (ju_4 w h)) (hts (.instantiable RX3 3) (jj_v2 (List.mem_of_getElem? (i := 137) (by decide +kernel))))
  obtain ⟨c5, i5, k5⟩ := u_known (C := RX4) (T := TX4) (N := 6) (n := 6) hts (fun w h => hj w (ju_5 w h)) (hts (.instantiable RX4 6) (jj_v1 (List.mem_of_getElem? (i := 125) (by decide +kernel))))
  obtain ⟨c6, i6, k6⟩ := u_known (C := RX5) (T := TX5) (N := 3) (n := 3) hts (fun w h => hj w (ju_6 w h)) (hts (.instantiable RX5 3) (jj_v2 (List.mem_of_getElem? (i := 79) (by decide +kernel))))
  obtain ⟨c7, i7, k7⟩ := u_known (C := RX6) (T := TX6) (N := 5) (n := 5) hts (fun w h => hj w (ju_7 w h)) (hts (.instantiable RX6 5) (jj_v1 (List.mem_of_getElem? (i := 170) (by decide +kernel))))
  obtain ⟨c8, i8, k8⟩ := u_known (C := RX7) (T := TX7) (N := 6) (n := 6) hts (fun w h => hj w (ju_8 w h)) (hts (.instantiable RX7 6) (jj_v3 (List.mem_of_getElem? (i := 212) (by decide +kernel))))
  obtain ⟨c9, i9, k9⟩ := u_known (C := RX8) (T := TX8) (N := 5) (n := 5) hts (fun w h => hj w (ju_9 w h)) (hts (.instantiable RX8 5) (jj_v1 (List.mem_of_getElem? (i := 83) (by decide +kernel))))
  obtain ⟨c10, i10, k10⟩ := u_known (C := RX9) (T := TX9) (N := 7) (n := 7) hts (fun w h => hj w (ju_10 w h)) (hts (.instantiable RX9 7) (jj_v1 (List.mem_of_getElem? (i := 36) (by decide +kernel))))
  obtain ⟨c11, i11, k11⟩ := u_known (C := RX10) (T := TX10) (N := 10) (n := 10) hts (fun w h => hj w (ju_11 w h)) (hts (.instantiable RX10 10) (jj_v1 (List.mem_of_getElem? (i := 28) (by decide +kernel))))
  obtain ⟨c12, i12, k12⟩ := u_known (C := RX11) (T := TX11) (N := 25) (n := 25) hts (fun w h => hj w (ju_12 w h)) (hts (.instantiable RX11 25) (jj_v6 (List.mem_of_getElem? (i := 145) (by decide +kernel))))
  refine ⟨(fun k => [c0, c1, c2, c3, c4, c5, c6, c7, c8, c9, c10, c11, c12].getD k c0, fun k => [i0, i1, i2, i3, i4, i5, i6, i7, i8, i9, i10, i11, i12].getD k i0), fun k q hq => ?_⟩
  match k, hq with
  | 0, hq => cases hq; exact k0
  | 1, hq => cases hq; exact k1
  | 2, hq => cases hq; exact k2
  | 3, hq => cases hq; exact k3
  | 4, hq => cases hq; exact k4
  | 5, hq => cases hq; exact k5
  | 6, hq => cases hq; exact k6
  | 7, hq => cases hq; exact k7
  | 8, hq => cases hq; exact k8
  | 9, hq => cases hq; exact k9
  | 10, hq => cases hq; exact k10
  | 11, hq => cases hq; exact k11
  | 12, hq => cases hq; exact k12
  | k + 13, hq => simp [vwCl] at hq
theorem jj_amb {args : Array Value} {s : State} {A : Nat → Prop} (hts : ∀ w ∈ lw_tbl, w.before args s = true) (hf : ∀ w ∈ jj_fl, w.before args s = true) (hA : ∀ a : Nat, a < s.heap.size → ¬ A a) : ∃ ak : (Nat → Nat) × (Nat → Nat), jj_b ak A s s.heap := by
  obtain ⟨ak, hS, hv⟩ := jj_strs hf hA
  refine ⟨ak, vx_Zqof (hts (.laysStatic "java/lang/Throwable" "UNASSIGNED_STACK" "[Ljava/lang/StackTraceElement;") (jj_v4 (List.mem_of_getElem? (i := 184) (by decide +kernel)))) (hts (.initialized "java/lang/Throwable") (jj_v1 (List.mem_of_getElem? (i := 10) (by decide +kernel)))) (hf (.isRef (.static "java/lang/Throwable" "UNASSIGNED_STACK" "[Ljava/lang/StackTraceElement;")) (List.mem_of_getElem? (i := 9) (by decide +kernel))) hA, vx_Zqof (hts (.laysStatic "java/lang/Throwable" "SUPPRESSED_SENTINEL" "Ljava/util/List;") (jj_v4 (List.mem_of_getElem? (i := 186) (by decide +kernel)))) (hts (.initialized "java/lang/Throwable") (jj_v1 (List.mem_of_getElem? (i := 10) (by decide +kernel)))) (hf (.isRef (.static "java/lang/Throwable" "SUPPRESSED_SENTINEL" "Ljava/util/List;")) (List.mem_of_getElem? (i := 10) (by decide +kernel))) hA, ?_, ?_, ?_, ?_, ?_, hS, ?_, ?_, va_Zqof (hts (.laysStatic "jdk/internal/util/Preconditions" "SIOOBE_FORMATTER" "Ljava/util/function/BiFunction;") (jj_v2 (List.mem_of_getElem? (i := 211) (by decide +kernel)))) (hts (.initialized "jdk/internal/util/Preconditions") (jj_v1 (List.mem_of_getElem? (i := 18) (by decide +kernel)))) (hf (.isRef (.static "jdk/internal/util/Preconditions" "SIOOBE_FORMATTER" "Ljava/util/function/BiFunction;")) (List.mem_of_getElem? (i := 5) (by decide +kernel))) hA⟩
  · intro q hq
    rcases List.mem_cons.mp hq with rfl | hq
    · exact va_AO.of (hts (.arrayOver (.object RX0)) (jj_v2 (List.mem_of_getElem? (i := 77) (by decide +kernel))))
    rcases List.mem_cons.mp hq with rfl | hq
    · exact va_AO.of (hts (.arrayOver (.object RX4)) (jj_v1 (List.mem_of_getElem? (i := 80) (by decide +kernel))))
    rcases List.mem_cons.mp hq with rfl | hq
    · exact va_AO.of (hts (.arrayOver (.object RX6)) (jj_v1 (List.mem_of_getElem? (i := 82) (by decide +kernel))))
    rcases List.mem_cons.mp hq with rfl | hq
    · exact va_AO.of (hts (.arrayOver (.object RX8)) (jj_v1 (List.mem_of_getElem? (i := 78) (by decide +kernel))))
    cases hq
  · intro q hq
    rcases List.mem_cons.mp hq with rfl | hq
    · exact va_Nw.of rfl (hts (.declares (Bundle.initS "java/lang/RuntimeException")) (jj_v4 (List.mem_of_getElem? (i := 161) (by decide +kernel))))
    rcases List.mem_cons.mp hq with rfl | hq
    · exact va_Nw.of rfl (hts (.declares (Bundle.initS "java/lang/Exception")) (jj_v4 (List.mem_of_getElem? (i := 163) (by decide +kernel))))
    rcases List.mem_cons.mp hq with rfl | hq
    · exact va_Nw.of rfl (hts (.declares (Bundle.initS "java/lang/Throwable")) (jj_v4 (List.mem_of_getElem? (i := 165) (by decide +kernel))))
    cases hq
  · intro q hq
    rcases List.mem_cons.mp hq with rfl | hq
    · exact va_Nw.of rfl (hts (.castable "java/lang/IllegalStateException" "java/lang/IllegalStateException") (jj_v4 (List.mem_of_getElem? (i := 159) (by decide +kernel))))
    rcases List.mem_cons.mp hq with rfl | hq
    · exact va_Nw.of rfl (hts (.castable "java/lang/IllegalArgumentException" "java/lang/IllegalArgumentException") (jj_v5 (List.mem_of_getElem? (i := 1) (by decide +kernel))))
    rcases List.mem_cons.mp hq with rfl | hq
    · exact va_Nw.of rfl (hts (.castable "java/lang/IndexOutOfBoundsException" "java/lang/IndexOutOfBoundsException") (jj_v5 (List.mem_of_getElem? (i := 52) (by decide +kernel))))
    rcases List.mem_cons.mp hq with rfl | hq
    · exact va_Nw.of rfl (hts (.castable "java/lang/ArithmeticException" "java/lang/ArithmeticException") (jj_v6 (List.mem_of_getElem? (i := 19) (by decide +kernel))))
    rcases List.mem_cons.mp hq with rfl | hq
    · exact va_Nw.of rfl (hts (.castable "java/util/NoSuchElementException" "java/util/NoSuchElementException") (jj_v6 (List.mem_of_getElem? (i := 73) (by decide +kernel))))
    cases hq
  · intro q hq
    rcases List.mem_cons.mp hq with rfl | hq
    · exact va_Nc.of (hf (.not (.castable "java/lang/IllegalStateException" "java/lang/IndexOutOfBoundsException")) (List.mem_of_getElem? (i := 52) (by decide +kernel)))
    rcases List.mem_cons.mp hq with rfl | hq
    · exact va_Nc.of (hf (.not (.castable "java/lang/IllegalStateException" "java/lang/IllegalArgumentException")) (List.mem_of_getElem? (i := 36) (by decide +kernel)))
    rcases List.mem_cons.mp hq with rfl | hq
    · exact va_Nc.of (hf (.not (.castable "java/lang/IllegalArgumentException" "java/lang/IndexOutOfBoundsException")) (List.mem_of_getElem? (i := 53) (by decide +kernel)))
    rcases List.mem_cons.mp hq with rfl | hq
    · exact va_Nc.of (hf (.not (.castable "java/lang/ArithmeticException" "java/lang/IndexOutOfBoundsException")) (List.mem_of_getElem? (i := 56) (by decide +kernel)))
    rcases List.mem_cons.mp hq with rfl | hq
    · exact va_Nc.of (hf (.not (.castable "java/util/NoSuchElementException" "java/lang/IndexOutOfBoundsException")) (List.mem_of_getElem? (i := 57) (by decide +kernel)))
    cases hq
  · intro q hq
    obtain ⟨g1, g2⟩ := jj_w7 q hq
    have g3 := jj_w6 _ g1
    have g4 := hv _ g1
    have g5 : jj_so.getD q.2.2.2 ("", 0, "") = (q.1, q.2.1, q.2.2.1) := by rw [List.getD_eq_getElem?_getD, g2]; rfl
    rw [g5] at g3
    have g6 : (Term.string q.1 q.2.1).eval args s none [] s = some (.ref (ak.1 q.2.2.2)) := by
      have g7 : jj_tm q.2.2.2 = Term.string q.1 q.2.1 := by show Term.string (jj_so.getD q.2.2.2 ("", 0, "")).1 (jj_so.getD q.2.2.2 ("", 0, "")).2.1 = _; rw [g5]
      rw [← g7]; exact g4
    exact vk_R.of (hts _ (jj_vt (List.mem_of_getElem? g3))) g6
  · exact va_Zof (hts (.laysStatic "java/lang/String" "COMPACT_STRINGS" "Z") (jj_v2 (List.mem_of_getElem? (i := 195) (by decide +kernel)))) (hts (.initialized "java/lang/String") (jj_v1 (List.mem_of_getElem? (i := 16) (by decide +kernel)))) (va_eqt (hf (.eq (.static "java/lang/String" "COMPACT_STRINGS" "Z") (.int 1)) (List.mem_of_getElem? (i := 4) (by decide +kernel)))) hA
  · intro q hq
    rcases List.mem_cons.mp hq with rfl | hq
    · exact va_Nw.of rfl (hts (.methodLinkNest RX10 52 yX5_init "SeriesFund") (jj_v2 (List.mem_of_getElem? (i := 80) (by decide +kernel))))
    rcases List.mem_cons.mp hq with rfl | hq
    · exact va_Nw.of rfl (hts (.methodLinkNest RX10 9 yX9_init "SeriesFund") (jj_v1 (List.mem_of_getElem? (i := 37) (by decide +kernel))))
    rcases List.mem_cons.mp hq with rfl | hq
    · exact va_Nw.of rfl (hts (.methodLinkNest RX0 64 yX8_init "SeriesFund") (jj_v1 (List.mem_of_getElem? (i := 84) (by decide +kernel))))
    rcases List.mem_cons.mp hq with rfl | hq
    · exact va_Nw.of rfl (hts (.methodLinkNest RX0 65 yX4_init "SeriesFund") (jj_v1 (List.mem_of_getElem? (i := 126) (by decide +kernel))))
    rcases List.mem_cons.mp hq with rfl | hq
    · exact va_Nw.of rfl (hts (.methodLinkNest RX0 66 yX6_init "SeriesFund") (jj_v1 (List.mem_of_getElem? (i := 171) (by decide +kernel))))
    rcases List.mem_cons.mp hq with rfl | hq
    · exact va_Nw.of rfl (hts (.methodLinkNest RX1 33 yX8_init "SeriesFund") (jj_v2 (List.mem_of_getElem? (i := 57) (by decide +kernel))))
    cases hq
theorem jj_lawC {p : Program} {l : Launch} {s : State} {m : MethodId} {meth : Method} {c : Code} {b L : Nat} {xs : Nat → Int32} (hl : l.stackTraces = false) (C0 : lw_At p s m meth c b L xs) : ∃ (D : va_G) (cA : Nat → ClassId) (ak : (Nat → Nat) × (Nat → Nat)), jj_C p l s m #[Value.ref b] meth c code 9 R_law ret D cA (fun q : Nat => s.heap.size ≤ q) ak := by
  obtain ⟨hx, hb, hr, hml, hown, hts, hX, hbl, hlocks, hgv⟩ := id C0
  have hf := flat_of_before _ hgv
  have hA : ∀ a : Nat, a < s.heap.size → ¬ (fun q : Nat => s.heap.size ≤ q) a := fun a h => Nat.not_le.mpr h
  obtain ⟨ak, hamb⟩ := jj_amb (A := fun q : Nat => s.heap.size ≤ q) hts hf hA
  obtain ⟨D, hD⟩ := jj_cls0 hts
  obtain ⟨cA, hcA⟩ := jj_arr hts hamb.2.2.1
  exact ⟨D, cA, ak, hx, hb, hml, hr, hown, fun w hw => hts w (List.mem_filter.mp hw).1, hlocks, ⟨hD, hcA⟩, fun q h => h, hl, hamb⟩
