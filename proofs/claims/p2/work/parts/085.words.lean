theorem jt_RX10_75 : jj_T RX10 75 "java/lang/IllegalArgumentException" ["java/lang/RuntimeException", "java/lang/Exception"] := ⟨by decide +kernel, by decide +kernel, by decide +kernel, by decide +kernel, by decide +kernel, by decide +kernel⟩
theorem jw_1 : Cond.classLink RX10 71 "java/lang/IllegalArgumentException" ∈ jj_G := jj_t4 (List.mem_of_getElem? (i := 239) (by decide +kernel)) rfl
theorem jw_2 : Cond.fieldLink RX10 26 "SeriesFund" "book" "LSeriesFund$Book;" ∈ jj_G := jj_t2 (List.mem_of_getElem? (i := 100) (by decide +kernel)) rfl
theorem jw_4 : Cond.laysFinal RX10 "SeriesFund" "tokens" "LSeriesFund$Tokens;" ∈ jj_G := jj_t2 (List.mem_of_getElem? (i := 107) (by decide +kernel)) rfl
theorem jw_5 : Cond.lays RX10 "SeriesFund" "parseCode" "I" ∈ jj_G := jj_t2 (List.mem_of_getElem? (i := 109) (by decide +kernel)) rfl
theorem jw_6 : Cond.lays RX10 "SeriesFund" "parsePosition" "I" ∈ jj_G := jj_t2 (List.mem_of_getElem? (i := 111) (by decide +kernel)) rfl
theorem jw_7 : Cond.laysFinal RX10 "SeriesFund" "book" "LSeriesFund$Book;" ∈ jj_G := jj_t2 (List.mem_of_getElem? (i := 113) (by decide +kernel)) rfl
theorem jw_8 : Cond.laysFinal RX10 "SeriesFund" "thought" "LSeriesFund$Book;" ∈ jj_G := jj_t2 (List.mem_of_getElem? (i := 115) (by decide +kernel)) rfl
theorem jw_9 : Cond.laysFinal RX10 "SeriesFund" "desk" "LSeriesFund$Desk;" ∈ jj_G := jj_t2 (List.mem_of_getElem? (i := 117) (by decide +kernel)) rfl
theorem jw_10 : Cond.laysFinal RX10 "SeriesFund" "past" "[LSeriesFund$Book;" ∈ jj_G := jj_t2 (List.mem_of_getElem? (i := 119) (by decide +kernel)) rfl
theorem jw_11 : Cond.lays RX10 "SeriesFund" "newest" "I" ∈ jj_G := jj_t2 (List.mem_of_getElem? (i := 121) (by decide +kernel)) rfl
theorem jw_12 : Cond.lays RX10 "SeriesFund" "remembered" "I" ∈ jj_G := jj_t2 (List.mem_of_getElem? (i := 123) (by decide +kernel)) rfl
theorem jw_13 : Cond.laysFinal RX10 "SeriesFund" "report" "LSeriesFund$Report;" ∈ jj_G := jj_t2 (List.mem_of_getElem? (i := 125) (by decide +kernel)) rfl
theorem ju_11 : ∀ w ∈ u_ws RX10 TX10 10, w ∈ jj_G := by
  intro w hw
  obtain ⟨k, hk, rfl⟩ := List.mem_map.mp hw
  have hk := List.mem_range.mp hk
  match k, hk with
  | 0, _ => exact jw_4
  | 1, _ => exact jw_5
  | 2, _ => exact jw_6
  | 3, _ => exact jw_7
  | 4, _ => exact jw_8
  | 5, _ => exact jw_9
  | 6, _ => exact jw_10
  | 7, _ => exact jw_11
  | 8, _ => exact jw_12
  | 9, _ => exact jw_13
  | n + 10, hk => exact absurd hk (by omega)
theorem jk_11 : jj_K 11 RX10 TX10 10 tyX10 := ⟨rfl, ju_11, tyX10_ok, nmX10⟩
theorem jd_11 : ∀ j, j < 10 → defaultValue (tyX10 j) = vp_V [.null, .int 0, .int 0, .null, .null, .null, .null, .int 0, .int 0, .null] j := by
  intro j hj
  match j, hj with
  | 0, _ => rfl
  | 1, _ => rfl
  | 2, _ => rfl
  | 3, _ => rfl
  | 4, _ => rfl
  | 5, _ => rfl
  | 6, _ => rfl
  | 7, _ => rfl
  | 8, _ => rfl
  | 9, _ => rfl
  | n + 10, hj => exact absurd hj (by omega)
theorem jw_14 : Cond.fieldLink RX10 244 "SeriesFund$Book" "accounts" "[J" ∈ jj_G := jj_t2 (List.mem_of_getElem? (i := 8) (by decide +kernel)) rfl
theorem jw_16 : Cond.lays RX0 "SeriesFund$Book" "investors" "I" ∈ jj_G := jj_t2 (List.mem_of_getElem? (i := 21) (by decide +kernel)) rfl
theorem jw_17 : Cond.lays RX0 "SeriesFund$Book" "method" "I" ∈ jj_G := jj_t2 (List.mem_of_getElem? (i := 23) (by decide +kernel)) rfl
theorem jw_18 : Cond.lays RX0 "SeriesFund$Book" "managementRate" "I" ∈ jj_G := jj_t2 (List.mem_of_getElem? (i := 25) (by decide +kernel)) rfl
theorem jw_19 : Cond.lays RX0 "SeriesFund$Book" "performanceFee" "I" ∈ jj_G := jj_t2 (List.mem_of_getElem? (i := 27) (by decide +kernel)) rfl
theorem jw_20 : Cond.lays RX0 "SeriesFund$Book" "gate" "I" ∈ jj_G := jj_t2 (List.mem_of_getElem? (i := 29) (by decide +kernel)) rfl
theorem jw_21 : Cond.lays RX0 "SeriesFund$Book" "day" "I" ∈ jj_G := jj_t2 (List.mem_of_getElem? (i := 31) (by decide +kernel)) rfl
theorem jw_22 : Cond.lays RX0 "SeriesFund$Book" "opened" "I" ∈ jj_G := jj_t2 (List.mem_of_getElem? (i := 33) (by decide +kernel)) rfl
theorem jw_23 : Cond.lays RX0 "SeriesFund$Book" "seriesCount" "I" ∈ jj_G := jj_t2 (List.mem_of_getElem? (i := 35) (by decide +kernel)) rfl
theorem jw_24 : Cond.lays RX0 "SeriesFund$Book" "lotCount" "I" ∈ jj_G := jj_t2 (List.mem_of_getElem? (i := 37) (by decide +kernel)) rfl
theorem jw_25 : Cond.lays RX0 "SeriesFund$Book" "requestCount" "I" ∈ jj_G := jj_t2 (List.mem_of_getElem? (i := 39) (by decide +kernel)) rfl
theorem jw_26 : Cond.laysFinal RX0 "SeriesFund$Book" "accounts" "[J" ∈ jj_G := jj_t2 (List.mem_of_getElem? (i := 41) (by decide +kernel)) rfl
theorem jw_27 : Cond.laysFinal RX0 "SeriesFund$Book" "series" "[LSeriesFund$Series;" ∈ jj_G := jj_t2 (List.mem_of_getElem? (i := 43) (by decide +kernel)) rfl
theorem jw_28 : Cond.laysFinal RX0 "SeriesFund$Book" "lots" "[LSeriesFund$Lot;" ∈ jj_G := jj_t2 (List.mem_of_getElem? (i := 45) (by decide +kernel)) rfl
theorem jw_29 : Cond.laysFinal RX0 "SeriesFund$Book" "requests" "[LSeriesFund$Request;" ∈ jj_G := jj_t2 (List.mem_of_getElem? (i := 47) (by decide +kernel)) rfl
theorem ju_2 : ∀ w ∈ u_ws RX0 TX0 14, w ∈ jj_G := by
  intro w hw
  obtain ⟨k, hk, rfl⟩ := List.mem_map.mp hw
  have hk := List.mem_range.mp hk
  match k, hk with
  | 0, _ => exact jw_16
  | 1, _ => exact jw_17
  | 2, _ => exact jw_18
  | 3, _ => exact jw_19
  | 4, _ => exact jw_20
  | 5, _ => exact jw_21
  | 6, _ => exact jw_22
  | 7, _ => exact jw_23
  | 8, _ => exact jw_24
  | 9, _ => exact jw_25
  | 10, _ => exact jw_26
  | 11, _ => exact jw_27
  | 12, _ => exact jw_28
  | 13, _ => exact jw_29
  | n + 14, hk => exact absurd hk (by omega)
theorem jk_2 : jj_K 2 RX0 TX0 14 tyX0 := ⟨rfl, ju_2, tyX0_ok, nmX0⟩
theorem jd_2 : ∀ j, j < 14 → defaultValue (tyX0 j) = vp_V [.int 0, .int 0, .int 0, .int 0, .int 0, .int 0, .int 0, .int 0, .int 0, .int 0, .null, .null, .null, .null] j := by
  intro j hj
  match j, hj with
  | 0, _ => rfl
  | 1, _ => rfl
  | 2, _ => rfl
  | 3, _ => rfl
  | 4, _ => rfl
  | 5, _ => rfl
  | 6, _ => rfl
  | 7, _ => rfl
  | 8, _ => rfl
  | 9, _ => rfl
  | 10, _ => rfl
  | 11, _ => rfl
  | 12, _ => rfl
  | 13, _ => rfl
  | n + 14, hj => exact absurd hj (by omega)
theorem jw_30 : Cond.fieldLink RX10 10 "SeriesFund" "tokens" "LSeriesFund$Tokens;" ∈ jj_G := jj_t2 (List.mem_of_getElem? (i := 97) (by decide +kernel)) rfl
theorem jw_31 : Cond.fieldLink RX10 57 "SeriesFund$Tokens" "held" "I" ∈ jj_G := jj_t1 (List.mem_of_getElem? (i := 43) (by decide +kernel)) rfl
theorem jw_33 : Cond.laysFinal RX9 "SeriesFund$Tokens" "text" "[C" ∈ jj_G := jj_t1 (List.mem_of_getElem? (i := 55) (by decide +kernel)) rfl
theorem jw_34 : Cond.lays RX9 "SeriesFund$Tokens" "held" "I" ∈ jj_G := jj_t1 (List.mem_of_getElem? (i := 57) (by decide +kernel)) rfl
theorem jw_35 : Cond.lays RX9 "SeriesFund$Tokens" "length" "I" ∈ jj_G := jj_t1 (List.mem_of_getElem? (i := 59) (by decide +kernel)) rfl
theorem jw_36 : Cond.lays RX9 "SeriesFund$Tokens" "end" "I" ∈ jj_G := jj_t1 (List.mem_of_getElem? (i := 61) (by decide +kernel)) rfl
theorem jw_37 : Cond.lays RX9 "SeriesFund$Tokens" "start" "I" ∈ jj_G := jj_t1 (List.mem_of_getElem? (i := 63) (by decide +kernel)) rfl
theorem jw_38 : Cond.lays RX9 "SeriesFund$Tokens" "kind" "I" ∈ jj_G := jj_t1 (List.mem_of_getElem? (i := 65) (by decide +kernel)) rfl
theorem jw_39 : Cond.lays RX9 "SeriesFund$Tokens" "value" "I" ∈ jj_G := jj_t1 (List.mem_of_getElem? (i := 67) (by decide +kernel)) rfl
theorem ju_10 : ∀ w ∈ u_ws RX9 TX9 7, w ∈ jj_G := by
  intro w hw
  obtain ⟨k, hk, rfl⟩ := List.mem_map.mp hw
  have hk := List.mem_range.mp hk
  match k, hk with
  | 0, _ => exact jw_33
  | 1, _ => exact jw_34
  | 2, _ => exact jw_35
  | 3, _ => exact jw_36
  | 4, _ => exact jw_37
  | 5, _ => exact jw_38
  | 6, _ => exact jw_39
  | n + 7, hk => exact absurd hk (by omega)
theorem jk_10 : jj_K 10 RX9 TX9 7 tyX9 := ⟨rfl, ju_10, tyX9_ok, nmX9⟩
theorem jd_10 : ∀ j, j < 7 → defaultValue (tyX9 j) = vp_V [.null, .int 0, .int 0, .int 0, .int 0, .int 0, .int 0] j := by
  intro j hj
  match j, hj with
  | 0, _ => rfl
  | 1, _ => rfl
  | 2, _ => rfl
  | 3, _ => rfl
  | 4, _ => rfl
  | 5, _ => rfl
  | 6, _ => rfl
  | n + 7, hj => exact absurd hj (by omega)
theorem jw_40 : Cond.methodLink RX10 67 yX9_putFour ∈ jj_G := jj_t4 (List.mem_of_getElem? (i := 227) (by decide +kernel)) rfl
theorem jw_41 : Cond.code yX9_putFour cX9_putFour 3 none ∈ jj_G := jj_t4 (List.mem_of_getElem? (i := 230) (by decide +kernel)) rfl
theorem jw_42 : Cond.initialized RX9 ∈ jj_G := jj_t1 (List.mem_of_getElem? (i := 2) (by decide +kernel)) rfl
theorem jw_43 : Cond.fieldLink RX9 15 "SeriesFund$Tokens" "held" "I" ∈ jj_G := jj_t1 (List.mem_of_getElem? (i := 42) (by decide +kernel)) rfl
theorem jw_44 : Cond.fieldLink RX9 9 "SeriesFund$Tokens" "text" "[C" ∈ jj_G := jj_t1 (List.mem_of_getElem? (i := 41) (by decide +kernel)) rfl
theorem jw_45 : Cond.instanceMethod yX9_putFour ∈ jj_G := jj_t4 (List.mem_of_getElem? (i := 228) (by decide +kernel)) rfl
theorem jw_46 : Cond.selects RX9 yX9_putFour yX9_putFour ∈ jj_G := jj_t4 (List.mem_of_getElem? (i := 229) (by decide +kernel)) rfl
theorem jn_X9_putFour : jj_N yX9_putFour 1 := by unfold jj_N; decide +kernel
theorem jt_RX10_64 : jj_T RX10 64 "java/lang/IllegalStateException" ["java/lang/RuntimeException", "java/lang/Exception"] := ⟨by decide +kernel, by decide +kernel, by decide +kernel, by decide +kernel, by decide +kernel, by decide +kernel⟩
theorem jw_49 : Cond.classLink RX10 60 "java/lang/IllegalStateException" ∈ jj_G := jj_t4 (List.mem_of_getElem? (i := 157) (by decide +kernel)) rfl
theorem jw_50 : Cond.methodLink RX10 122 yX10_checkRequest ∈ jj_G := jj_t5 (List.mem_of_getElem? (i := 81) (by decide +kernel)) rfl
theorem jw_51 : Cond.code yX10_checkRequest cX10_checkRequest 2 none ∈ jj_G := jj_t5 (List.mem_of_getElem? (i := 84) (by decide +kernel)) rfl
theorem jw_52 : Cond.initialized RX10 ∈ jj_G := jj_t1 (List.mem_of_getElem? (i := 1) (by decide +kernel)) rfl
theorem jw_53 : Cond.methodLink RX10 109 yX10_refuse ∈ jj_G := jj_t5 (List.mem_of_getElem? (i := 47) (by decide +kernel)) rfl
theorem jw_54 : Cond.code yX10_refuse cX10_refuse 1 none ∈ jj_G := jj_t5 (List.mem_of_getElem? (i := 49) (by decide +kernel)) rfl
theorem jt_RX10_200 : jj_T RX10 200 "java/lang/IndexOutOfBoundsException" ["java/lang/RuntimeException", "java/lang/Exception"] := ⟨by decide +kernel, by decide +kernel, by decide +kernel, by decide +kernel, by decide +kernel, by decide +kernel⟩
theorem jw_56 : Cond.classLink RX10 196 "java/lang/IndexOutOfBoundsException" ∈ jj_G := jj_t5 (List.mem_of_getElem? (i := 50) (by decide +kernel)) rfl
theorem jw_57 : Cond.static yX10_refuse ∈ jj_G := jj_t5 (List.mem_of_getElem? (i := 48) (by decide +kernel)) rfl
theorem jn_X10_refuse : jj_N yX10_refuse 1 := by unfold jj_N; decide +kernel
theorem jw_59 : Cond.fieldLink RX10 94 "SeriesFund$Book" "requestCount" "I" ∈ jj_G := jj_t2 (List.mem_of_getElem? (i := 4) (by decide +kernel)) rfl
theorem jw_60 : Cond.instanceMethod yX10_checkRequest ∈ jj_G := jj_t5 (List.mem_of_getElem? (i := 83) (by decide +kernel)) rfl
theorem jw_61 : Cond.selects RX10 yX10_checkRequest yX10_checkRequest ∈ jj_G := jj_pv (q := (yX10_checkRequest, 10)) (by decide +kernel)
theorem jn_X10_checkRequest : jj_N yX10_checkRequest 1 := by unfold jj_N; decide +kernel
theorem jw_63 : Cond.fieldLink RX10 125 "SeriesFund$Book" "requests" "[LSeriesFund$Request;" ∈ jj_G := jj_t2 (List.mem_of_getElem? (i := 20) (by decide +kernel)) rfl
theorem jw_64 : Cond.fieldLink RX10 310 "SeriesFund$Request" "redemption" "Z" ∈ jj_G := jj_t1 (List.mem_of_getElem? (i := 185) (by decide +kernel)) rfl
theorem jw_66 : Cond.lays RX6 "SeriesFund$Request" "investor" "I" ∈ jj_G := jj_t1 (List.mem_of_getElem? (i := 194) (by decide +kernel)) rfl
theorem jw_67 : Cond.lays RX6 "SeriesFund$Request" "day" "I" ∈ jj_G := jj_t1 (List.mem_of_getElem? (i := 196) (by decide +kernel)) rfl
theorem jw_68 : Cond.lays RX6 "SeriesFund$Request" "redemption" "Z" ∈ jj_G := jj_t1 (List.mem_of_getElem? (i := 198) (by decide +kernel)) rfl
theorem jw_69 : Cond.lays RX6 "SeriesFund$Request" "quantity" "J" ∈ jj_G := jj_t1 (List.mem_of_getElem? (i := 200) (by decide +kernel)) rfl
theorem jw_70 : Cond.lays RX6 "SeriesFund$Request" "redeemed" "J" ∈ jj_G := jj_t1 (List.mem_of_getElem? (i := 202) (by decide +kernel)) rfl
theorem ju_7 : ∀ w ∈ u_ws RX6 TX6 5, w ∈ jj_G := by
  intro w hw
  obtain ⟨k, hk, rfl⟩ := List.mem_map.mp hw
  have hk := List.mem_range.mp hk
  match k, hk with
  | 0, _ => exact jw_66
  | 1, _ => exact jw_67
  | 2, _ => exact jw_68
  | 3, _ => exact jw_69
  | 4, _ => exact jw_70
  | n + 5, hk => exact absurd hk (by omega)
theorem jk_7 : jj_K 7 RX6 TX6 5 tyX6 := ⟨rfl, ju_7, tyX6_ok, nmX6⟩
theorem jd_7 : ∀ j, j < 5 → defaultValue (tyX6 j) = vp_V [.int 0, .int 0, .int 0, .long 0, .long 0] j := by
  intro j hj
  match j, hj with
  | 0, _ => rfl
  | 1, _ => rfl
  | 2, _ => rfl
  | 3, _ => rfl
  | 4, _ => rfl
  | n + 5, hj => exact absurd hj (by omega)
theorem jw_71 : Cond.fieldLink RX10 36 "SeriesFund" "desk" "LSeriesFund$Desk;" ∈ jj_G := jj_t2 (List.mem_of_getElem? (i := 102) (by decide +kernel)) rfl
theorem jw_72 : Cond.methodLink RX10 334 yX1_baseOfRedemptions ∈ jj_G := jj_t4 (List.mem_of_getElem? (i := 82) (by decide +kernel)) rfl
theorem jw_73 : Cond.code yX1_baseOfRedemptions cX1_baseOfRedemptions 6 (some .long) ∈ jj_G := jj_t3 (List.mem_of_getElem? (i := 41) (by decide +kernel)) rfl
theorem jw_74 : Cond.initialized RX1 ∈ jj_G := jj_t1 (List.mem_of_getElem? (i := 7) (by decide +kernel)) rfl
theorem jw_75 : Cond.fieldLink RX1 56 "SeriesFund$Book" "requestCount" "I" ∈ jj_G := jj_t2 (List.mem_of_getElem? (i := 3) (by decide +kernel)) rfl
theorem jw_76 : Cond.fieldLink RX1 60 "SeriesFund$Book" "requests" "[LSeriesFund$Request;" ∈ jj_G := jj_t2 (List.mem_of_getElem? (i := 19) (by decide +kernel)) rfl
theorem jw_77 : Cond.fieldLink RX1 64 "SeriesFund$Request" "redemption" "Z" ∈ jj_G := jj_t1 (List.mem_of_getElem? (i := 183) (by decide +kernel)) rfl
theorem jw_78 : Cond.methodLink RX1 87 yX1_resetTrial ∈ jj_G := jj_t3 (List.mem_of_getElem? (i := 42) (by decide +kernel)) rfl
theorem jw_79 : Cond.code yX1_resetTrial cX1_resetTrial 4 none ∈ jj_G := jj_t3 (List.mem_of_getElem? (i := 45) (by decide +kernel)) rfl
theorem jw_80 : Cond.fieldLink RX1 97 "SeriesFund$Book" "seriesCount" "I" ∈ jj_G := jj_t1 (List.mem_of_getElem? (i := 236) (by decide +kernel)) rfl
theorem jw_81 : Cond.fieldLink RX1 11 "SeriesFund$Desk" "trial" "[LSeriesFund$Series;" ∈ jj_G := jj_t2 (List.mem_of_getElem? (i := 58) (by decide +kernel)) rfl
theorem jw_83 : Cond.laysFinal RX1 "SeriesFund$Desk" "trial" "[LSeriesFund$Series;" ∈ jj_G := jj_t2 (List.mem_of_getElem? (i := 64) (by decide +kernel)) rfl
theorem jw_84 : Cond.lays RX1 "SeriesFund$Desk" "base" "J" ∈ jj_G := jj_t2 (List.mem_of_getElem? (i := 66) (by decide +kernel)) rfl
theorem jw_85 : Cond.lays RX1 "SeriesFund$Desk" "part" "J" ∈ jj_G := jj_t2 (List.mem_of_getElem? (i := 68) (by decide +kernel)) rfl
theorem jw_86 : Cond.lays RX1 "SeriesFund$Desk" "usedCredit" "J" ∈ jj_G := jj_t2 (List.mem_of_getElem? (i := 70) (by decide +kernel)) rfl
theorem jw_87 : Cond.lays RX1 "SeriesFund$Desk" "back" "J" ∈ jj_G := jj_t2 (List.mem_of_getElem? (i := 72) (by decide +kernel)) rfl
theorem jw_88 : Cond.lays RX1 "SeriesFund$Desk" "due" "J" ∈ jj_G := jj_t2 (List.mem_of_getElem? (i := 74) (by decide +kernel)) rfl
theorem ju_3 : ∀ w ∈ u_ws RX1 TX1 6, w ∈ jj_G := by
  intro w hw
  obtain ⟨k, hk, rfl⟩ := List.mem_map.mp hw
  have hk := List.mem_range.mp hk
  match k, hk with
  | 0, _ => exact jw_83
  | 1, _ => exact jw_84
  | 2, _ => exact jw_85
  | 3, _ => exact jw_86
  | 4, _ => exact jw_87
  | 5, _ => exact jw_88
  | n + 6, hk => exact absurd hk (by omega)
theorem jk_3 : jj_K 3 RX1 TX1 6 tyX1 := ⟨rfl, ju_3, tyX1_ok, nmX1⟩
theorem jd_3 : ∀ j, j < 6 → defaultValue (tyX1 j) = vp_V [.null, .long 0, .long 0, .long 0, .long 0, .long 0] j := by
  intro j hj
  match j, hj with
  | 0, _ => rfl
  | 1, _ => rfl
  | 2, _ => rfl
  | 3, _ => rfl
  | 4, _ => rfl
  | 5, _ => rfl
  | n + 6, hj => exact absurd hj (by omega)
theorem jw_89 : Cond.fieldLink RX1 100 "SeriesFund$Book" "series" "[LSeriesFund$Series;" ∈ jj_G := jj_t2 (List.mem_of_getElem? (i := 12) (by decide +kernel)) rfl
theorem jw_90 : Cond.methodLink RX1 103 yX8_copyFrom ∈ jj_G := jj_t3 (List.mem_of_getElem? (i := 46) (by decide +kernel)) rfl
theorem jw_91 : Cond.code yX8_copyFrom cX8_copyFrom 2 none ∈ jj_G := jj_t3 (List.mem_of_getElem? (i := 49) (by decide +kernel)) rfl
theorem jw_92 : Cond.initialized RX8 ∈ jj_G := jj_t1 (List.mem_of_getElem? (i := 4) (by decide +kernel)) rfl
theorem jw_93 : Cond.fieldLink RX8 9 "SeriesFund$Series" "number" "I" ∈ jj_G := jj_t1 (List.mem_of_getElem? (i := 89) (by decide +kernel)) rfl
theorem jw_95 : Cond.lays RX8 "SeriesFund$Series" "number" "I" ∈ jj_G := jj_t1 (List.mem_of_getElem? (i := 113) (by decide +kernel)) rfl
theorem jw_96 : Cond.lays RX8 "SeriesFund$Series" "startDay" "I" ∈ jj_G := jj_t1 (List.mem_of_getElem? (i := 115) (by decide +kernel)) rfl
theorem jw_97 : Cond.lays RX8 "SeriesFund$Series" "assets" "J" ∈ jj_G := jj_t1 (List.mem_of_getElem? (i := 117) (by decide +kernel)) rfl
theorem jw_98 : Cond.lays RX8 "SeriesFund$Series" "units" "J" ∈ jj_G := jj_t1 (List.mem_of_getElem? (i := 119) (by decide +kernel)) rfl
theorem jw_99 : Cond.lays RX8 "SeriesFund$Series" "mark" "J" ∈ jj_G := jj_t1 (List.mem_of_getElem? (i := 121) (by decide +kernel)) rfl
theorem ju_9 : ∀ w ∈ u_ws RX8 TX8 5, w ∈ jj_G := by
  intro w hw
  obtain ⟨k, hk, rfl⟩ := List.mem_map.mp hw
  have hk := List.mem_range.mp hk
  match k, hk with
  | 0, _ => exact jw_95
  | 1, _ => exact jw_96
  | 2, _ => exact jw_97
  | 3, _ => exact jw_98
  | 4, _ => exact jw_99
  | n + 5, hk => exact absurd hk (by omega)
theorem jk_9 : jj_K 9 RX8 TX8 5 tyX8 := ⟨rfl, ju_9, tyX8_ok, nmX8⟩
theorem jd_9 : ∀ j, j < 5 → defaultValue (tyX8 j) = vp_V [.int 0, .int 0, .long 0, .long 0, .long 0] j := by
  intro j hj
  match j, hj with
  | 0, _ => rfl
  | 1, _ => rfl
  | 2, _ => rfl
  | 3, _ => rfl
  | 4, _ => rfl
  | n + 5, hj => exact absurd hj (by omega)
theorem jw_100 : Cond.fieldLink RX8 15 "SeriesFund$Series" "startDay" "I" ∈ jj_G := jj_t1 (List.mem_of_getElem? (i := 95) (by decide +kernel)) rfl
theorem jw_101 : Cond.fieldLink RX8 18 "SeriesFund$Series" "assets" "J" ∈ jj_G := jj_t1 (List.mem_of_getElem? (i := 97) (by decide +kernel)) rfl
theorem jw_102 : Cond.fieldLink RX8 22 "SeriesFund$Series" "units" "J" ∈ jj_G := jj_t1 (List.mem_of_getElem? (i := 102) (by decide +kernel)) rfl
theorem jw_103 : Cond.fieldLink RX8 27 "SeriesFund$Series" "mark" "J" ∈ jj_G := jj_t1 (List.mem_of_getElem? (i := 107) (by decide +kernel)) rfl
theorem jw_104 : Cond.instanceMethod yX8_copyFrom ∈ jj_G := jj_t3 (List.mem_of_getElem? (i := 47) (by decide +kernel)) rfl
theorem jw_105 : Cond.selects RX8 yX8_copyFrom yX8_copyFrom ∈ jj_G := jj_t3 (List.mem_of_getElem? (i := 48) (by decide +kernel)) rfl
theorem jn_X8_copyFrom : jj_N yX8_copyFrom 1 := by unfold jj_N; decide +kernel
theorem jw_107 : Cond.methodLink RX1 107 yX8_assetsAfter ∈ jj_G := jj_t3 (List.mem_of_getElem? (i := 50) (by decide +kernel)) rfl
theorem jw_108 : Cond.code yX8_assetsAfter cX8_assetsAfter 2 (some .long) ∈ jj_G := jj_t3 (List.mem_of_getElem? (i := 53) (by decide +kernel)) rfl
theorem jw_109 : Cond.constantLong RX8 42 (10000) ∈ jj_G := jj_t3 (List.mem_of_getElem? (i := 54) (by decide +kernel)) rfl
theorem jw_110 : Cond.instanceMethod yX8_assetsAfter ∈ jj_G := jj_t3 (List.mem_of_getElem? (i := 51) (by decide +kernel)) rfl
theorem jw_111 : Cond.selects RX8 yX8_assetsAfter yX8_assetsAfter ∈ jj_G := jj_t3 (List.mem_of_getElem? (i := 52) (by decide +kernel)) rfl
theorem jn_X8_assetsAfter : jj_N yX8_assetsAfter 1 := by unfold jj_N; decide +kernel
theorem jw_113 : Cond.fieldLink RX1 110 "SeriesFund$Series" "assets" "J" ∈ jj_G := jj_t1 (List.mem_of_getElem? (i := 99) (by decide +kernel)) rfl
theorem jw_114 : Cond.instanceMethod yX1_resetTrial ∈ jj_G := jj_t3 (List.mem_of_getElem? (i := 44) (by decide +kernel)) rfl
theorem jw_115 : Cond.selects RX1 yX1_resetTrial yX1_resetTrial ∈ jj_G := jj_pv (q := (yX1_resetTrial, 6)) (by decide +kernel)
theorem jn_X1_resetTrial : jj_N yX1_resetTrial 2 := by unfold jj_N; decide +kernel
theorem jw_117 : Cond.fieldLink RX1 73 "SeriesFund$Request" "investor" "I" ∈ jj_G := jj_t1 (List.mem_of_getElem? (i := 176) (by decide +kernel)) rfl
theorem jw_118 : Cond.fieldLink RX1 70 "SeriesFund$Request" "quantity" "J" ∈ jj_G := jj_t1 (List.mem_of_getElem? (i := 187) (by decide +kernel)) rfl
theorem jw_119 : Cond.methodLink RX1 91 yX1_tryRedemption ∈ jj_G := jj_t3 (List.mem_of_getElem? (i := 55) (by decide +kernel)) rfl
theorem jw_120 : Cond.code yX1_tryRedemption cX1_tryRedemption 15 (some .long) ∈ jj_G := jj_t3 (List.mem_of_getElem? (i := 58) (by decide +kernel)) rfl
theorem jw_121 : Cond.fieldLink RX1 113 "SeriesFund$Book" "lotCount" "I" ∈ jj_G := jj_t1 (List.mem_of_getElem? (i := 239) (by decide +kernel)) rfl
theorem jw_122 : Cond.fieldLink RX1 116 "SeriesFund$Book" "lots" "[LSeriesFund$Lot;" ∈ jj_G := jj_t2 (List.mem_of_getElem? (i := 15) (by decide +kernel)) rfl
theorem jw_123 : Cond.fieldLink RX1 120 "SeriesFund$Lot" "series" "I" ∈ jj_G := jj_t1 (List.mem_of_getElem? (i := 136) (by decide +kernel)) rfl
theorem jw_125 : Cond.lays RX4 "SeriesFund$Lot" "investor" "I" ∈ jj_G := jj_t1 (List.mem_of_getElem? (i := 157) (by decide +kernel)) rfl
theorem jw_126 : Cond.lays RX4 "SeriesFund$Lot" "series" "I" ∈ jj_G := jj_t1 (List.mem_of_getElem? (i := 159) (by decide +kernel)) rfl
theorem jw_127 : Cond.lays RX4 "SeriesFund$Lot" "day" "I" ∈ jj_G := jj_t1 (List.mem_of_getElem? (i := 161) (by decide +kernel)) rfl
theorem jw_128 : Cond.lays RX4 "SeriesFund$Lot" "units" "J" ∈ jj_G := jj_t1 (List.mem_of_getElem? (i := 163) (by decide +kernel)) rfl
theorem jw_129 : Cond.lays RX4 "SeriesFund$Lot" "entryPrice" "J" ∈ jj_G := jj_t1 (List.mem_of_getElem? (i := 165) (by decide +kernel)) rfl
theorem jw_130 : Cond.lays RX4 "SeriesFund$Lot" "credit" "J" ∈ jj_G := jj_t1 (List.mem_of_getElem? (i := 167) (by decide +kernel)) rfl
theorem ju_5 : ∀ w ∈ u_ws RX4 TX4 6, w ∈ jj_G := by
  intro w hw
  obtain ⟨k, hk, rfl⟩ := List.mem_map.mp hw
  have hk := List.mem_range.mp hk
  match k, hk with
  | 0, _ => exact jw_125
  | 1, _ => exact jw_126
  | 2, _ => exact jw_127
  | 3, _ => exact jw_128
  | 4, _ => exact jw_129
  | 5, _ => exact jw_130
  | n + 6, hk => exact absurd hk (by omega)
theorem jk_5 : jj_K 5 RX4 TX4 6 tyX4 := ⟨rfl, ju_5, tyX4_ok, nmX4⟩
theorem jd_5 : ∀ j, j < 6 → defaultValue (tyX4 j) = vp_V [.int 0, .int 0, .int 0, .long 0, .long 0, .long 0] j := by
  intro j hj
  match j, hj with
  | 0, _ => rfl
  | 1, _ => rfl
  | 2, _ => rfl
  | 3, _ => rfl
  | 4, _ => rfl
  | 5, _ => rfl
  | n + 6, hj => exact absurd hj (by omega)
theorem jw_131 : Cond.methodLink RX1 124 yX0_placeOfSeries ∈ jj_G := jj_t3 (List.mem_of_getElem? (i := 59) (by decide +kernel)) rfl
theorem jw_132 : Cond.code yX0_placeOfSeries cX0_placeOfSeries 3 (some .int) ∈ jj_G := jj_t3 (List.mem_of_getElem? (i := 62) (by decide +kernel)) rfl
theorem jw_133 : Cond.initialized RX0 ∈ jj_G := jj_t1 (List.mem_of_getElem? (i := 3) (by decide +kernel)) rfl
theorem jw_134 : Cond.fieldLink RX0 33 "SeriesFund$Book" "seriesCount" "I" ∈ jj_G := jj_t1 (List.mem_of_getElem? (i := 233) (by decide +kernel)) rfl
theorem jw_135 : Cond.fieldLink RX0 48 "SeriesFund$Book" "series" "[LSeriesFund$Series;" ∈ jj_G := jj_t2 (List.mem_of_getElem? (i := 9) (by decide +kernel)) rfl
theorem jw_136 : Cond.fieldLink RX0 86 "SeriesFund$Series" "number" "I" ∈ jj_G := jj_t1 (List.mem_of_getElem? (i := 91) (by decide +kernel)) rfl
theorem jw_137 : Cond.instanceMethod yX0_placeOfSeries ∈ jj_G := jj_t3 (List.mem_of_getElem? (i := 60) (by decide +kernel)) rfl
theorem jw_138 : Cond.selects RX0 yX0_placeOfSeries yX0_placeOfSeries ∈ jj_G := jj_t3 (List.mem_of_getElem? (i := 61) (by decide +kernel)) rfl
theorem jn_X0_placeOfSeries : jj_N yX0_placeOfSeries 1 := by unfold jj_N; decide +kernel
theorem jw_140 : Cond.fieldLink RX1 128 "SeriesFund$Lot" "investor" "I" ∈ jj_G := jj_t1 (List.mem_of_getElem? (i := 132) (by decide +kernel)) rfl
theorem jw_141 : Cond.fieldLink RX1 129 "SeriesFund$Lot" "units" "J" ∈ jj_G := jj_t1 (List.mem_of_getElem? (i := 144) (by decide +kernel)) rfl
theorem jw_142 : Cond.methodLink RX1 132 yJ9_min_f86c9 ∈ jj_G := jj_t3 (List.mem_of_getElem? (i := 63) (by decide +kernel)) rfl
theorem jw_143 : Cond.code yJ9_min_f86c9 cJ9_min_f86c9 4 (some .long) ∈ jj_G := jj_t3 (List.mem_of_getElem? (i := 65) (by decide +kernel)) rfl
theorem jw_144 : Cond.initialized RJ9 ∈ jj_G := jj_t1 (List.mem_of_getElem? (i := 20) (by decide +kernel)) rfl
theorem jw_145 : Cond.static yJ9_min_f86c9 ∈ jj_G := jj_t3 (List.mem_of_getElem? (i := 64) (by decide +kernel)) rfl
theorem jn_J9_min_f86c9 : jj_N yJ9_min_f86c9 2 := by unfold jj_N; decide +kernel
theorem jw_147 : Cond.methodLink RX1 138 yX1_quote ∈ jj_G := jj_t3 (List.mem_of_getElem? (i := 66) (by decide +kernel)) rfl
theorem jw_148 : Cond.code yX1_quote cX1_quote 9 none ∈ jj_G := jj_t3 (List.mem_of_getElem? (i := 69) (by decide +kernel)) rfl
theorem jw_149 : Cond.fieldLink RX1 159 "SeriesFund$Book" "performanceFee" "I" ∈ jj_G := jj_t1 (List.mem_of_getElem? (i := 222) (by decide +kernel)) rfl
theorem jw_150 : Cond.methodLink RX1 162 yX8_accruedFee ∈ jj_G := jj_t3 (List.mem_of_getElem? (i := 70) (by decide +kernel)) rfl
theorem jw_151 : Cond.code yX8_accruedFee cX8_accruedFee 6 (some .long) ∈ jj_G := jj_t3 (List.mem_of_getElem? (i := 73) (by decide +kernel)) rfl
theorem jw_152 : Cond.constantLong RX8 30 (100000) ∈ jj_G := jj_t3 (List.mem_of_getElem? (i := 74) (by decide +kernel)) rfl
theorem jw_153 : Cond.constantLong RX8 40 (100) ∈ jj_G := jj_t3 (List.mem_of_getElem? (i := 75) (by decide +kernel)) rfl
theorem jw_154 : Cond.instanceMethod yX8_accruedFee ∈ jj_G := jj_t3 (List.mem_of_getElem? (i := 71) (by decide +kernel)) rfl
theorem jw_155 : Cond.selects RX8 yX8_accruedFee yX8_accruedFee ∈ jj_G := jj_t3 (List.mem_of_getElem? (i := 72) (by decide +kernel)) rfl
theorem jn_X8_accruedFee : jj_N yX8_accruedFee 1 := by unfold jj_N; decide +kernel
theorem jw_157 : Cond.fieldLink RX1 142 "SeriesFund$Series" "units" "J" ∈ jj_G := jj_t1 (List.mem_of_getElem? (i := 103) (by decide +kernel)) rfl
theorem jw_158 : Cond.fieldLink RX1 17 "SeriesFund$Desk" "base" "J" ∈ jj_G := jj_t2 (List.mem_of_getElem? (i := 59) (by decide +kernel)) rfl
theorem jw_159 : Cond.fieldLink RX1 21 "SeriesFund$Desk" "part" "J" ∈ jj_G := jj_t2 (List.mem_of_getElem? (i := 60) (by decide +kernel)) rfl
theorem jw_160 : Cond.fieldLink RX1 24 "SeriesFund$Desk" "usedCredit" "J" ∈ jj_G := jj_t2 (List.mem_of_getElem? (i := 61) (by decide +kernel)) rfl
theorem jw_161 : Cond.fieldLink RX1 27 "SeriesFund$Desk" "back" "J" ∈ jj_G := jj_t2 (List.mem_of_getElem? (i := 62) (by decide +kernel)) rfl
theorem jw_162 : Cond.fieldLink RX1 30 "SeriesFund$Desk" "due" "J" ∈ jj_G := jj_t2 (List.mem_of_getElem? (i := 63) (by decide +kernel)) rfl
theorem jw_163 : Cond.fieldLink RX1 152 "SeriesFund$Lot" "credit" "J" ∈ jj_G := jj_t1 (List.mem_of_getElem? (i := 154) (by decide +kernel)) rfl
theorem jw_164 : Cond.fieldLink RX1 165 "SeriesFund$Book" "method" "I" ∈ jj_G := jj_t1 (List.mem_of_getElem? (i := 212) (by decide +kernel)) rfl
theorem jw_165 : Cond.fieldLink RX1 168 "SeriesFund$Lot" "entryPrice" "J" ∈ jj_G := jj_t1 (List.mem_of_getElem? (i := 149) (by decide +kernel)) rfl
theorem jw_166 : Cond.methodLink RX1 171 yX8_grossPrice ∈ jj_G := jj_t3 (List.mem_of_getElem? (i := 76) (by decide +kernel)) rfl
theorem jw_167 : Cond.code yX8_grossPrice cX8_grossPrice 1 (some .long) ∈ jj_G := jj_t3 (List.mem_of_getElem? (i := 79) (by decide +kernel)) rfl
theorem jw_168 : Cond.constantLong RX8 25 (1000000) ∈ jj_G := jj_t1 (List.mem_of_getElem? (i := 88) (by decide +kernel)) rfl
theorem jw_169 : Cond.instanceMethod yX8_grossPrice ∈ jj_G := jj_t3 (List.mem_of_getElem? (i := 77) (by decide +kernel)) rfl
theorem jw_170 : Cond.selects RX8 yX8_grossPrice yX8_grossPrice ∈ jj_G := jj_t3 (List.mem_of_getElem? (i := 78) (by decide +kernel)) rfl
theorem jn_X8_grossPrice : jj_N yX8_grossPrice 0 := by unfold jj_N; decide +kernel
theorem jw_172 : Cond.fieldLink RX1 174 "SeriesFund$Series" "mark" "J" ∈ jj_G := jj_t1 (List.mem_of_getElem? (i := 110) (by decide +kernel)) rfl
theorem jw_173 : Cond.methodLink RX1 177 yX2_dueOn ∈ jj_G := jj_t3 (List.mem_of_getElem? (i := 80) (by decide +kernel)) rfl
theorem jw_174 : Cond.code yX2_dueOn cX2_dueOn 7 (some .long) ∈ jj_G := jj_t3 (List.mem_of_getElem? (i := 82) (by decide +kernel)) rfl
theorem jw_175 : Cond.initialized RX2 ∈ jj_G := jj_t1 (List.mem_of_getElem? (i := 21) (by decide +kernel)) rfl
theorem jw_176 : Cond.constantLong RX2 9 (100) ∈ jj_G := jj_t3 (List.mem_of_getElem? (i := 83) (by decide +kernel)) rfl
theorem jw_177 : Cond.constantLong RX2 11 (100000) ∈ jj_G := jj_t3 (List.mem_of_getElem? (i := 84) (by decide +kernel)) rfl
theorem jw_178 : Cond.static yX2_dueOn ∈ jj_G := jj_t3 (List.mem_of_getElem? (i := 81) (by decide +kernel)) rfl
theorem jn_X2_dueOn : jj_N yX2_dueOn 4 := by unfold jj_N; decide +kernel
theorem jw_180 : Cond.instanceMethod yX1_quote ∈ jj_G := jj_t3 (List.mem_of_getElem? (i := 68) (by decide +kernel)) rfl
theorem jw_181 : Cond.selects RX1 yX1_quote yX1_quote ∈ jj_G := jj_pv (q := (yX1_quote, 6)) (by decide +kernel)
theorem jn_X1_quote : jj_N yX1_quote 4 := by unfold jj_N; decide +kernel
theorem jw_183 : Cond.instanceMethod yX1_tryRedemption ∈ jj_G := jj_t3 (List.mem_of_getElem? (i := 57) (by decide +kernel)) rfl
theorem jw_184 : Cond.selects RX1 yX1_tryRedemption yX1_tryRedemption ∈ jj_G := jj_pv (q := (yX1_tryRedemption, 6)) (by decide +kernel)
theorem jn_X1_tryRedemption : jj_N yX1_tryRedemption 4 := by unfold jj_N; decide +kernel
theorem jw_186 : Cond.instanceMethod yX1_baseOfRedemptions ∈ jj_G := jj_t3 (List.mem_of_getElem? (i := 39) (by decide +kernel)) rfl
theorem jw_187 : Cond.selects RX1 yX1_baseOfRedemptions yX1_baseOfRedemptions ∈ jj_G := jj_t3 (List.mem_of_getElem? (i := 40) (by decide +kernel)) rfl
theorem jn_X1_baseOfRedemptions : jj_N yX1_baseOfRedemptions 1 := by unfold jj_N; decide +kernel
theorem jw_189 : Cond.fieldLink RX10 30 "SeriesFund" "thought" "LSeriesFund$Book;" ∈ jj_G := jj_t2 (List.mem_of_getElem? (i := 101) (by decide +kernel)) rfl
theorem jw_190 : Cond.methodLink RX10 101 yX0_copyFrom ∈ jj_G := jj_t3 (List.mem_of_getElem? (i := 146) (by decide +kernel)) rfl
theorem jw_191 : Cond.code yX0_copyFrom cX0_copyFrom 3 none ∈ jj_G := jj_t3 (List.mem_of_getElem? (i := 149) (by decide +kernel)) rfl
theorem jw_192 : Cond.fieldLink RX0 9 "SeriesFund$Book" "investors" "I" ∈ jj_G := jj_t1 (List.mem_of_getElem? (i := 205) (by decide +kernel)) rfl
theorem jw_193 : Cond.fieldLink RX0 15 "SeriesFund$Book" "method" "I" ∈ jj_G := jj_t1 (List.mem_of_getElem? (i := 209) (by decide +kernel)) rfl
theorem jw_194 : Cond.fieldLink RX0 18 "SeriesFund$Book" "managementRate" "I" ∈ jj_G := jj_t1 (List.mem_of_getElem? (i := 214) (by decide +kernel)) rfl
theorem jw_195 : Cond.fieldLink RX0 21 "SeriesFund$Book" "performanceFee" "I" ∈ jj_G := jj_t1 (List.mem_of_getElem? (i := 218) (by decide +kernel)) rfl
theorem jw_196 : Cond.fieldLink RX0 24 "SeriesFund$Book" "gate" "I" ∈ jj_G := jj_t1 (List.mem_of_getElem? (i := 224) (by decide +kernel)) rfl
theorem jw_197 : Cond.fieldLink RX0 27 "SeriesFund$Book" "day" "I" ∈ jj_G := jj_t1 (List.mem_of_getElem? (i := 227) (by decide +kernel)) rfl
theorem jw_198 : Cond.fieldLink RX0 30 "SeriesFund$Book" "opened" "I" ∈ jj_G := jj_t1 (List.mem_of_getElem? (i := 231) (by decide +kernel)) rfl
theorem jw_199 : Cond.fieldLink RX0 36 "SeriesFund$Book" "lotCount" "I" ∈ jj_G := jj_t1 (List.mem_of_getElem? (i := 238) (by decide +kernel)) rfl
theorem jw_200 : Cond.fieldLink RX0 39 "SeriesFund$Book" "requestCount" "I" ∈ jj_G := jj_t2 (List.mem_of_getElem? (i := 2) (by decide +kernel)) rfl
theorem jw_201 : Cond.fieldLink RX0 42 "SeriesFund$Book" "accounts" "[J" ∈ jj_G := jj_t2 (List.mem_of_getElem? (i := 5) (by decide +kernel)) rfl
theorem jw_202 : Cond.fieldLink RX0 60 "SeriesFund$Book" "requests" "[LSeriesFund$Request;" ∈ jj_G := jj_t2 (List.mem_of_getElem? (i := 18) (by decide +kernel)) rfl
theorem jw_203 : Cond.methodLink RX0 74 yX6_copyFrom ∈ jj_G := jj_t3 (List.mem_of_getElem? (i := 155) (by decide +kernel)) rfl
theorem jw_204 : Cond.code yX6_copyFrom cX6_copyFrom 2 none ∈ jj_G := jj_t3 (List.mem_of_getElem? (i := 158) (by decide +kernel)) rfl
theorem jw_205 : Cond.initialized RX6 ∈ jj_G := jj_t1 (List.mem_of_getElem? (i := 6) (by decide +kernel)) rfl
theorem jw_206 : Cond.fieldLink RX6 7 "SeriesFund$Request" "investor" "I" ∈ jj_G := jj_t1 (List.mem_of_getElem? (i := 175) (by decide +kernel)) rfl
theorem jw_207 : Cond.fieldLink RX6 13 "SeriesFund$Request" "day" "I" ∈ jj_G := jj_t1 (List.mem_of_getElem? (i := 179) (by decide +kernel)) rfl
theorem jw_208 : Cond.fieldLink RX6 16 "SeriesFund$Request" "redemption" "Z" ∈ jj_G := jj_t1 (List.mem_of_getElem? (i := 182) (by decide +kernel)) rfl
theorem jw_209 : Cond.fieldLink RX6 20 "SeriesFund$Request" "quantity" "J" ∈ jj_G := jj_t1 (List.mem_of_getElem? (i := 186) (by decide +kernel)) rfl
theorem jw_210 : Cond.fieldLink RX6 24 "SeriesFund$Request" "redeemed" "J" ∈ jj_G := jj_t1 (List.mem_of_getElem? (i := 190) (by decide +kernel)) rfl
theorem jw_211 : Cond.instanceMethod yX6_copyFrom ∈ jj_G := jj_t3 (List.mem_of_getElem? (i := 156) (by decide +kernel)) rfl
theorem jw_212 : Cond.selects RX6 yX6_copyFrom yX6_copyFrom ∈ jj_G := jj_t3 (List.mem_of_getElem? (i := 157) (by decide +kernel)) rfl
theorem jn_X6_copyFrom : jj_N yX6_copyFrom 1 := by unfold jj_N; decide +kernel
theorem jw_214 : Cond.fieldLink RX0 54 "SeriesFund$Book" "lots" "[LSeriesFund$Lot;" ∈ jj_G := jj_t2 (List.mem_of_getElem? (i := 14) (by decide +kernel)) rfl
theorem jw_215 : Cond.methodLink RX0 71 yX4_copyFrom ∈ jj_G := jj_t3 (List.mem_of_getElem? (i := 151) (by decide +kernel)) rfl
theorem jw_216 : Cond.code yX4_copyFrom cX4_copyFrom 2 none ∈ jj_G := jj_t3 (List.mem_of_getElem? (i := 154) (by decide +kernel)) rfl
theorem jw_217 : Cond.initialized RX4 ∈ jj_G := jj_t1 (List.mem_of_getElem? (i := 5) (by decide +kernel)) rfl
theorem jw_218 : Cond.fieldLink RX4 7 "SeriesFund$Lot" "investor" "I" ∈ jj_G := jj_t1 (List.mem_of_getElem? (i := 130) (by decide +kernel)) rfl
theorem jw_219 : Cond.fieldLink RX4 13 "SeriesFund$Lot" "series" "I" ∈ jj_G := jj_t1 (List.mem_of_getElem? (i := 134) (by decide +kernel)) rfl
theorem jw_220 : Cond.fieldLink RX4 16 "SeriesFund$Lot" "day" "I" ∈ jj_G := jj_t1 (List.mem_of_getElem? (i := 139) (by decide +kernel)) rfl
theorem jw_221 : Cond.fieldLink RX4 19 "SeriesFund$Lot" "units" "J" ∈ jj_G := jj_t1 (List.mem_of_getElem? (i := 142) (by decide +kernel)) rfl
theorem jw_222 : Cond.fieldLink RX4 23 "SeriesFund$Lot" "entryPrice" "J" ∈ jj_G := jj_t1 (List.mem_of_getElem? (i := 147) (by decide +kernel)) rfl
theorem jw_223 : Cond.fieldLink RX4 26 "SeriesFund$Lot" "credit" "J" ∈ jj_G := jj_t1 (List.mem_of_getElem? (i := 152) (by decide +kernel)) rfl
theorem jw_224 : Cond.instanceMethod yX4_copyFrom ∈ jj_G := jj_t3 (List.mem_of_getElem? (i := 152) (by decide +kernel)) rfl
theorem jw_225 : Cond.selects RX4 yX4_copyFrom yX4_copyFrom ∈ jj_G := jj_t3 (List.mem_of_getElem? (i := 153) (by decide +kernel)) rfl
theorem jn_X4_copyFrom : jj_N yX4_copyFrom 1 := by unfold jj_N; decide +kernel
theorem jw_227 : Cond.methodLink RX0 67 yX8_copyFrom ∈ jj_G := jj_t3 (List.mem_of_getElem? (i := 150) (by decide +kernel)) rfl
theorem jw_228 : Cond.instanceMethod yX0_copyFrom ∈ jj_G := jj_t3 (List.mem_of_getElem? (i := 147) (by decide +kernel)) rfl
theorem jw_229 : Cond.selects RX0 yX0_copyFrom yX0_copyFrom ∈ jj_G := jj_t3 (List.mem_of_getElem? (i := 148) (by decide +kernel)) rfl
theorem jn_X0_copyFrom : jj_N yX0_copyFrom 1 := by unfold jj_N; decide +kernel
theorem jw_231 : Cond.fieldLink RX10 176 "SeriesFund$Book" "gate" "I" ∈ jj_G := jj_t1 (List.mem_of_getElem? (i := 226) (by decide +kernel)) rfl
theorem jw_232 : Cond.methodLink RX10 340 yX1_redeemWaiting ∈ jj_G := jj_t6 (List.mem_of_getElem? (i := 35) (by decide +kernel)) rfl
theorem jw_233 : Cond.code yX1_redeemWaiting cX1_redeemWaiting 10 none ∈ jj_G := jj_t3 (List.mem_of_getElem? (i := 88) (by decide +kernel)) rfl
theorem jw_234 : Cond.methodLink RX1 52 yX0_limitOfGate ∈ jj_G := jj_t3 (List.mem_of_getElem? (i := 89) (by decide +kernel)) rfl
theorem jw_235 : Cond.code yX0_limitOfGate cX0_limitOfGate 1 (some .long) ∈ jj_G := jj_t3 (List.mem_of_getElem? (i := 92) (by decide +kernel)) rfl
theorem jw_236 : Cond.methodLink RX0 96 yX0_netOfAll ∈ jj_G := jj_t3 (List.mem_of_getElem? (i := 93) (by decide +kernel)) rfl
theorem jw_237 : Cond.code yX0_netOfAll cX0_netOfAll 4 (some .long) ∈ jj_G := jj_t3 (List.mem_of_getElem? (i := 96) (by decide +kernel)) rfl
theorem jw_238 : Cond.fieldLink RX0 89 "SeriesFund$Series" "assets" "J" ∈ jj_G := jj_t1 (List.mem_of_getElem? (i := 100) (by decide +kernel)) rfl
theorem jw_239 : Cond.methodLink RX0 92 yX8_accruedFee ∈ jj_G := jj_t3 (List.mem_of_getElem? (i := 97) (by decide +kernel)) rfl
theorem jw_240 : Cond.instanceMethod yX0_netOfAll ∈ jj_G := jj_t3 (List.mem_of_getElem? (i := 94) (by decide +kernel)) rfl
theorem jw_241 : Cond.selects RX0 yX0_netOfAll yX0_netOfAll ∈ jj_G := jj_t3 (List.mem_of_getElem? (i := 95) (by decide +kernel)) rfl
theorem jn_X0_netOfAll : jj_N yX0_netOfAll 0 := by unfold jj_N; decide +kernel
theorem jw_243 : Cond.constantLong RX0 100 (100) ∈ jj_G := jj_t3 (List.mem_of_getElem? (i := 98) (by decide +kernel)) rfl
theorem jw_244 : Cond.instanceMethod yX0_limitOfGate ∈ jj_G := jj_t3 (List.mem_of_getElem? (i := 90) (by decide +kernel)) rfl
theorem jw_245 : Cond.selects RX0 yX0_limitOfGate yX0_limitOfGate ∈ jj_G := jj_t3 (List.mem_of_getElem? (i := 91) (by decide +kernel)) rfl
theorem jn_X0_limitOfGate : jj_N yX0_limitOfGate 0 := by unfold jj_N; decide +kernel
theorem jw_247 : Cond.methodLink RX1 83 yX0_unitsHeldBy ∈ jj_G := jj_t3 (List.mem_of_getElem? (i := 115) (by decide +kernel)) rfl
theorem jw_248 : Cond.code yX0_unitsHeldBy cX0_unitsHeldBy 5 (some .long) ∈ jj_G := jj_t3 (List.mem_of_getElem? (i := 118) (by decide +kernel)) rfl
theorem jw_249 : Cond.fieldLink RX0 77 "SeriesFund$Lot" "investor" "I" ∈ jj_G := jj_t1 (List.mem_of_getElem? (i := 131) (by decide +kernel)) rfl
theorem jw_250 : Cond.fieldLink RX0 80 "SeriesFund$Lot" "units" "J" ∈ jj_G := jj_t1 (List.mem_of_getElem? (i := 143) (by decide +kernel)) rfl
theorem jw_251 : Cond.instanceMethod yX0_unitsHeldBy ∈ jj_G := jj_t3 (List.mem_of_getElem? (i := 116) (by decide +kernel)) rfl
theorem jw_252 : Cond.selects RX0 yX0_unitsHeldBy yX0_unitsHeldBy ∈ jj_G := jj_t3 (List.mem_of_getElem? (i := 117) (by decide +kernel)) rfl
theorem jn_X0_unitsHeldBy : jj_N yX0_unitsHeldBy 1 := by unfold jj_N; decide +kernel
theorem jw_254 : Cond.methodLink RX1 76 yX1_redeemUnits ∈ jj_G := jj_t3 (List.mem_of_getElem? (i := 99) (by decide +kernel)) rfl
theorem jw_255 : Cond.code yX1_redeemUnits cX1_redeemUnits 12 (some .long) ∈ jj_G := jj_t3 (List.mem_of_getElem? (i := 102) (by decide +kernel)) rfl
theorem jw_256 : Cond.methodLink RX1 146 yX0_dropEmptyLots ∈ jj_G := jj_t3 (List.mem_of_getElem? (i := 107) (by decide +kernel)) rfl
theorem jw_257 : Cond.code yX0_dropEmptyLots cX0_dropEmptyLots 4 none ∈ jj_G := jj_t3 (List.mem_of_getElem? (i := 110) (by decide +kernel)) rfl
theorem jw_258 : Cond.instanceMethod yX0_dropEmptyLots ∈ jj_G := jj_t3 (List.mem_of_getElem? (i := 108) (by decide +kernel)) rfl
theorem jw_259 : Cond.selects RX0 yX0_dropEmptyLots yX0_dropEmptyLots ∈ jj_G := jj_t3 (List.mem_of_getElem? (i := 109) (by decide +kernel)) rfl
theorem jn_X0_dropEmptyLots : jj_N yX0_dropEmptyLots 0 := by unfold jj_N; decide +kernel
theorem jw_261 : Cond.methodLink RX1 149 yX0_closeEmptySeries ∈ jj_G := jj_t3 (List.mem_of_getElem? (i := 111) (by decide +kernel)) rfl
theorem jw_262 : Cond.code yX0_closeEmptySeries cX0_closeEmptySeries 4 none ∈ jj_G := jj_t3 (List.mem_of_getElem? (i := 114) (by decide +kernel)) rfl
theorem jw_263 : Cond.fieldLink RX0 134 "SeriesFund$Series" "units" "J" ∈ jj_G := jj_t1 (List.mem_of_getElem? (i := 105) (by decide +kernel)) rfl
theorem jw_264 : Cond.instanceMethod yX0_closeEmptySeries ∈ jj_G := jj_t3 (List.mem_of_getElem? (i := 112) (by decide +kernel)) rfl
theorem jw_265 : Cond.selects RX0 yX0_closeEmptySeries yX0_closeEmptySeries ∈ jj_G := jj_t3 (List.mem_of_getElem? (i := 113) (by decide +kernel)) rfl
theorem jn_X0_closeEmptySeries : jj_N yX0_closeEmptySeries 0 := by unfold jj_N; decide +kernel
theorem jw_267 : Cond.methodLink RX1 143 yX1_takeOut ∈ jj_G := jj_t3 (List.mem_of_getElem? (i := 103) (by decide +kernel)) rfl
theorem jw_268 : Cond.code yX1_takeOut cX1_takeOut 6 none ∈ jj_G := jj_t3 (List.mem_of_getElem? (i := 106) (by decide +kernel)) rfl
theorem jw_269 : Cond.fieldLink RX1 155 "SeriesFund$Book" "accounts" "[J" ∈ jj_G := jj_t2 (List.mem_of_getElem? (i := 7) (by decide +kernel)) rfl
theorem jw_270 : Cond.instanceMethod yX1_takeOut ∈ jj_G := jj_t3 (List.mem_of_getElem? (i := 105) (by decide +kernel)) rfl
theorem jw_271 : Cond.selects RX1 yX1_takeOut yX1_takeOut ∈ jj_G := jj_pv (q := (yX1_takeOut, 6)) (by decide +kernel)
theorem jn_X1_takeOut : jj_N yX1_takeOut 4 := by unfold jj_N; decide +kernel
theorem jw_273 : Cond.instanceMethod yX1_redeemUnits ∈ jj_G := jj_t3 (List.mem_of_getElem? (i := 101) (by decide +kernel)) rfl
theorem jw_274 : Cond.selects RX1 yX1_redeemUnits yX1_redeemUnits ∈ jj_G := jj_pv (q := (yX1_redeemUnits, 6)) (by decide +kernel)
theorem jn_X1_redeemUnits : jj_N yX1_redeemUnits 3 := by unfold jj_N; decide +kernel
theorem jw_276 : Cond.fieldLink RX1 80 "SeriesFund$Request" "redeemed" "J" ∈ jj_G := jj_t1 (List.mem_of_getElem? (i := 191) (by decide +kernel)) rfl
theorem jw_277 : Cond.instanceMethod yX1_redeemWaiting ∈ jj_G := jj_t3 (List.mem_of_getElem? (i := 86) (by decide +kernel)) rfl
theorem jw_278 : Cond.selects RX1 yX1_redeemWaiting yX1_redeemWaiting ∈ jj_G := jj_t3 (List.mem_of_getElem? (i := 87) (by decide +kernel)) rfl
theorem jn_X1_redeemWaiting : jj_N yX1_redeemWaiting 2 := by unfold jj_N; decide +kernel
theorem jw_280 : Cond.methodLink RX10 350 yX0_isDone ∈ jj_G := jj_t6 (List.mem_of_getElem? (i := 44) (by decide +kernel)) rfl
theorem jw_281 : Cond.code yX0_isDone cX0_isDone 2 (some .boolean) ∈ jj_G := jj_t6 (List.mem_of_getElem? (i := 47) (by decide +kernel)) rfl
theorem jw_282 : Cond.fieldLink RX0 167 "SeriesFund$Request" "quantity" "J" ∈ jj_G := jj_t1 (List.mem_of_getElem? (i := 189) (by decide +kernel)) rfl
theorem jw_283 : Cond.instanceMethod yX0_isDone ∈ jj_G := jj_t6 (List.mem_of_getElem? (i := 45) (by decide +kernel)) rfl
theorem jw_284 : Cond.selects RX0 yX0_isDone yX0_isDone ∈ jj_G := jj_t6 (List.mem_of_getElem? (i := 46) (by decide +kernel)) rfl
theorem jn_X0_isDone : jj_N yX0_isDone 1 := by unfold jj_N; decide +kernel
theorem jw_286 : Cond.fieldLink RX10 250 "SeriesFund$Book" "series" "[LSeriesFund$Series;" ∈ jj_G := jj_t2 (List.mem_of_getElem? (i := 13) (by decide +kernel)) rfl
theorem jw_287 : Cond.methodLink RX10 259 yX10_placeOf ∈ jj_G := jj_t5 (List.mem_of_getElem? (i := 173) (by decide +kernel)) rfl
theorem jw_288 : Cond.code yX10_placeOf cX10_placeOf 3 (some .int) ∈ jj_G := jj_t5 (List.mem_of_getElem? (i := 176) (by decide +kernel)) rfl
theorem jw_289 : Cond.methodLink RX10 209 yX0_placeOfSeries ∈ jj_G := jj_t5 (List.mem_of_getElem? (i := 177) (by decide +kernel)) rfl
theorem jw_290 : Cond.instanceMethod yX10_placeOf ∈ jj_G := jj_t5 (List.mem_of_getElem? (i := 175) (by decide +kernel)) rfl
theorem jw_291 : Cond.selects RX10 yX10_placeOf yX10_placeOf ∈ jj_G := jj_pv (q := (yX10_placeOf, 10)) (by decide +kernel)
theorem jn_X10_placeOf : jj_N yX10_placeOf 1 := by unfold jj_N; decide +kernel
theorem jw_293 : Cond.methodLink RX10 362 yX8_assetsAfter ∈ jj_G := jj_t6 (List.mem_of_getElem? (i := 69) (by decide +kernel)) rfl
theorem jw_294 : Cond.methodLink RX10 365 yX8_priceWith ∈ jj_G := jj_t6 (List.mem_of_getElem? (i := 70) (by decide +kernel)) rfl
theorem jw_295 : Cond.code yX8_priceWith cX8_priceWith 3 (some .long) ∈ jj_G := jj_t4 (List.mem_of_getElem? (i := 57) (by decide +kernel)) rfl
theorem jw_296 : Cond.instanceMethod yX8_priceWith ∈ jj_G := jj_t4 (List.mem_of_getElem? (i := 55) (by decide +kernel)) rfl
theorem jw_297 : Cond.selects RX8 yX8_priceWith yX8_priceWith ∈ jj_G := jj_t4 (List.mem_of_getElem? (i := 56) (by decide +kernel)) rfl
theorem jn_X8_priceWith : jj_N yX8_priceWith 1 := by unfold jj_N; decide +kernel
theorem jw_299 : Cond.fieldLink RX10 268 "SeriesFund$Series" "mark" "J" ∈ jj_G := jj_t1 (List.mem_of_getElem? (i := 112) (by decide +kernel)) rfl
theorem jw_300 : Cond.methodLink RX10 374 yJ9_floorDiv_7cf53 ∈ jj_G := jj_t6 (List.mem_of_getElem? (i := 87) (by decide +kernel)) rfl
theorem jw_301 : Cond.code yJ9_floorDiv_7cf53 cJ9_floorDiv_7cf53 3 (some .int) ∈ jj_G := jj_t6 (List.mem_of_getElem? (i := 89) (by decide +kernel)) rfl
theorem jw_302 : Cond.static yJ9_floorDiv_7cf53 ∈ jj_G := jj_t6 (List.mem_of_getElem? (i := 88) (by decide +kernel)) rfl
theorem jn_J9_floorDiv_7cf53 : jj_N yJ9_floorDiv_7cf53 2 := by unfold jj_N; decide +kernel
theorem jt_RX10_373 : jj_TX RX10 373 "java/util/NoSuchElementException" 13 prog_31_method_4_code ["java/lang/RuntimeException", "java/lang/Exception"] := ⟨by decide +kernel, by decide +kernel, by decide +kernel, by decide +kernel, by decide +kernel, by decide +kernel, by decide +kernel, by decide +kernel, by decide +kernel, by decide +kernel⟩
theorem jw_305 : Cond.classLink RX10 369 "java/util/NoSuchElementException" ∈ jj_G := jj_t6 (List.mem_of_getElem? (i := 71) (by decide +kernel)) rfl
theorem jw_306 : Cond.fieldLink RX10 212 "SeriesFund$Book" "investors" "I" ∈ jj_G := jj_t1 (List.mem_of_getElem? (i := 208) (by decide +kernel)) rfl
theorem jw_307 : Cond.fieldLink RX10 215 "SeriesFund$Book" "method" "I" ∈ jj_G := jj_t1 (List.mem_of_getElem? (i := 213) (by decide +kernel)) rfl
theorem jw_308 : Cond.fieldLink RX10 218 "SeriesFund$Book" "managementRate" "I" ∈ jj_G := jj_t1 (List.mem_of_getElem? (i := 217) (by decide +kernel)) rfl
theorem jw_309 : Cond.fieldLink RX10 221 "SeriesFund$Book" "performanceFee" "I" ∈ jj_G := jj_t1 (List.mem_of_getElem? (i := 223) (by decide +kernel)) rfl
theorem jw_310 : Cond.fieldLink RX10 224 "SeriesFund$Book" "day" "I" ∈ jj_G := jj_t1 (List.mem_of_getElem? (i := 230) (by decide +kernel)) rfl
theorem jw_311 : Cond.fieldLink RX10 227 "SeriesFund$Book" "seriesCount" "I" ∈ jj_G := jj_t1 (List.mem_of_getElem? (i := 237) (by decide +kernel)) rfl
theorem jw_312 : Cond.fieldLink RX10 230 "SeriesFund$Book" "lotCount" "I" ∈ jj_G := jj_t2 (List.mem_of_getElem? (i := 1) (by decide +kernel)) rfl
theorem jw_313 : Cond.fieldLink RX10 233 "SeriesFund$Book" "opened" "I" ∈ jj_G := jj_t1 (List.mem_of_getElem? (i := 232) (by decide +kernel)) rfl
theorem jw_314 : Cond.methodLink RX10 238 yX0_netOfAll ∈ jj_G := jj_t4 (List.mem_of_getElem? (i := 77) (by decide +kernel)) rfl
theorem jw_315 : Cond.methodLink RX10 152 yX2_chargeDays ∈ jj_G := jj_t5 (List.mem_of_getElem? (i := 107) (by decide +kernel)) rfl
theorem jw_316 : Cond.code yX2_chargeDays cX2_chargeDays 8 (some .long) ∈ jj_G := jj_t4 (List.mem_of_getElem? (i := 69) (by decide +kernel)) rfl
theorem jw_317 : Cond.fieldLink RX2 13 "SeriesFund$Book" "seriesCount" "I" ∈ jj_G := jj_t1 (List.mem_of_getElem? (i := 235) (by decide +kernel)) rfl
theorem jw_318 : Cond.fieldLink RX2 50 "SeriesFund$Book" "day" "I" ∈ jj_G := jj_t1 (List.mem_of_getElem? (i := 229) (by decide +kernel)) rfl
theorem jw_319 : Cond.fieldLink RX2 41 "SeriesFund$Book" "accounts" "[J" ∈ jj_G := jj_t2 (List.mem_of_getElem? (i := 6) (by decide +kernel)) rfl
theorem jw_320 : Cond.fieldLink RX2 19 "SeriesFund$Book" "series" "[LSeriesFund$Series;" ∈ jj_G := jj_t2 (List.mem_of_getElem? (i := 11) (by decide +kernel)) rfl
theorem jw_321 : Cond.fieldLink RX2 37 "SeriesFund$Series" "assets" "J" ∈ jj_G := jj_t1 (List.mem_of_getElem? (i := 98) (by decide +kernel)) rfl
theorem jw_322 : Cond.fieldLink RX2 45 "SeriesFund$Book" "managementRate" "I" ∈ jj_G := jj_t1 (List.mem_of_getElem? (i := 216) (by decide +kernel)) rfl
theorem jw_323 : Cond.constantLong RX2 48 (3650000) ∈ jj_G := jj_t4 (List.mem_of_getElem? (i := 70) (by decide +kernel)) rfl
theorem jw_324 : Cond.static yX2_chargeDays ∈ jj_G := jj_t4 (List.mem_of_getElem? (i := 68) (by decide +kernel)) rfl
theorem jn_X2_chargeDays : jj_N yX2_chargeDays 2 := by unfold jj_N; decide +kernel
theorem jw_326 : Cond.methodLink RX10 347 yX1_subscribeWaiting ∈ jj_G := jj_t6 (List.mem_of_getElem? (i := 43) (by decide +kernel)) rfl
theorem jw_327 : Cond.code yX1_subscribeWaiting cX1_subscribeWaiting 5 none ∈ jj_G := jj_t3 (List.mem_of_getElem? (i := 122) (by decide +kernel)) rfl
theorem jw_328 : Cond.methodLink RX1 183 yX1_takeIn ∈ jj_G := jj_t3 (List.mem_of_getElem? (i := 123) (by decide +kernel)) rfl
theorem jw_329 : Cond.code yX1_takeIn cX1_takeIn 12 (some .boolean) ∈ jj_G := jj_t3 (List.mem_of_getElem? (i := 126) (by decide +kernel)) rfl
theorem jw_330 : Cond.constantLong RX1 187 (1000000) ∈ jj_G := jj_t3 (List.mem_of_getElem? (i := 127) (by decide +kernel)) rfl
theorem jw_331 : Cond.constantLong RX1 189 (100000) ∈ jj_G := jj_t3 (List.mem_of_getElem? (i := 128) (by decide +kernel)) rfl
theorem jw_332 : Cond.constantLong RX1 191 (10000000) ∈ jj_G := jj_t3 (List.mem_of_getElem? (i := 129) (by decide +kernel)) rfl
theorem jw_333 : Cond.methodLink RX1 193 yX0_beginSeries ∈ jj_G := jj_t3 (List.mem_of_getElem? (i := 130) (by decide +kernel)) rfl
theorem jw_334 : Cond.code yX0_beginSeries cX0_beginSeries 2 (some (.object "SeriesFund$Series")) ∈ jj_G := jj_t3 (List.mem_of_getElem? (i := 133) (by decide +kernel)) rfl
theorem jw_335 : Cond.methodLink RX0 120 yJ9_min_7cf53 ∈ jj_G := jj_t3 (List.mem_of_getElem? (i := 31) (by decide +kernel)) rfl
theorem jw_336 : Cond.code yJ9_min_7cf53 cJ9_min_7cf53 2 (some .int) ∈ jj_G := jj_t3 (List.mem_of_getElem? (i := 33) (by decide +kernel)) rfl
theorem jw_337 : Cond.static yJ9_min_7cf53 ∈ jj_G := jj_t3 (List.mem_of_getElem? (i := 32) (by decide +kernel)) rfl
theorem jn_J9_min_7cf53 : jj_N yJ9_min_7cf53 2 := by unfold jj_N; decide +kernel
theorem jw_339 : Cond.methodLink RX0 126 yX8_begin ∈ jj_G := jj_t3 (List.mem_of_getElem? (i := 134) (by decide +kernel)) rfl
theorem jw_340 : Cond.code yX8_begin cX8_begin 3 none ∈ jj_G := jj_t3 (List.mem_of_getElem? (i := 137) (by decide +kernel)) rfl
theorem jw_341 : Cond.instanceMethod yX8_begin ∈ jj_G := jj_t3 (List.mem_of_getElem? (i := 135) (by decide +kernel)) rfl
theorem jw_342 : Cond.selects RX8 yX8_begin yX8_begin ∈ jj_G := jj_t3 (List.mem_of_getElem? (i := 136) (by decide +kernel)) rfl
theorem jn_X8_begin : jj_N yX8_begin 2 := by unfold jj_N; decide +kernel
theorem jw_344 : Cond.instanceMethod yX0_beginSeries ∈ jj_G := jj_t3 (List.mem_of_getElem? (i := 131) (by decide +kernel)) rfl
theorem jw_345 : Cond.selects RX0 yX0_beginSeries yX0_beginSeries ∈ jj_G := jj_t3 (List.mem_of_getElem? (i := 132) (by decide +kernel)) rfl
theorem jn_X0_beginSeries : jj_N yX0_beginSeries 0 := by unfold jj_N; decide +kernel
theorem jw_347 : Cond.fieldLink RX1 197 "SeriesFund$Series" "number" "I" ∈ jj_G := jj_t1 (List.mem_of_getElem? (i := 93) (by decide +kernel)) rfl
theorem jw_348 : Cond.methodLink RX1 200 yX0_addLot ∈ jj_G := jj_t3 (List.mem_of_getElem? (i := 138) (by decide +kernel)) rfl
theorem jw_349 : Cond.code yX0_addLot cX0_addLot 11 (some (.object "SeriesFund$Lot")) ∈ jj_G := jj_t3 (List.mem_of_getElem? (i := 141) (by decide +kernel)) rfl
theorem jw_350 : Cond.fieldLink RX0 84 "SeriesFund$Lot" "series" "I" ∈ jj_G := jj_t1 (List.mem_of_getElem? (i := 135) (by decide +kernel)) rfl
theorem jw_351 : Cond.fieldLink RX0 114 "SeriesFund$Lot" "entryPrice" "J" ∈ jj_G := jj_t1 (List.mem_of_getElem? (i := 150) (by decide +kernel)) rfl
theorem jw_352 : Cond.fieldLink RX0 130 "SeriesFund$Lot" "credit" "J" ∈ jj_G := jj_t1 (List.mem_of_getElem? (i := 155) (by decide +kernel)) rfl
theorem jw_353 : Cond.fieldLink RX0 133 "SeriesFund$Lot" "day" "I" ∈ jj_G := jj_t1 (List.mem_of_getElem? (i := 140) (by decide +kernel)) rfl
theorem jw_354 : Cond.instanceMethod yX0_addLot ∈ jj_G := jj_t3 (List.mem_of_getElem? (i := 139) (by decide +kernel)) rfl
theorem jw_355 : Cond.selects RX0 yX0_addLot yX0_addLot ∈ jj_G := jj_t3 (List.mem_of_getElem? (i := 140) (by decide +kernel)) rfl
theorem jn_X0_addLot : jj_N yX0_addLot 5 := by unfold jj_N; decide +kernel
theorem jw_357 : Cond.instanceMethod yX1_takeIn ∈ jj_G := jj_t3 (List.mem_of_getElem? (i := 125) (by decide +kernel)) rfl
theorem jw_358 : Cond.selects RX1 yX1_takeIn yX1_takeIn ∈ jj_G := jj_pv (q := (yX1_takeIn, 6)) (by decide +kernel)
theorem jn_X1_takeIn : jj_N yX1_takeIn 3 := by unfold jj_N; decide +kernel
theorem jw_360 : Cond.instanceMethod yX1_subscribeWaiting ∈ jj_G := jj_t3 (List.mem_of_getElem? (i := 120) (by decide +kernel)) rfl
theorem jw_361 : Cond.selects RX1 yX1_subscribeWaiting yX1_subscribeWaiting ∈ jj_G := jj_t3 (List.mem_of_getElem? (i := 121) (by decide +kernel)) rfl
theorem jn_X1_subscribeWaiting : jj_N yX1_subscribeWaiting 1 := by unfold jj_N; decide +kernel
theorem jw_363 : Cond.methodLink RX10 353 yX0_doneBefore ∈ jj_G := jj_t6 (List.mem_of_getElem? (i := 48) (by decide +kernel)) rfl
theorem jw_364 : Cond.code yX0_doneBefore cX0_doneBefore 4 (some .int) ∈ jj_G := jj_t6 (List.mem_of_getElem? (i := 51) (by decide +kernel)) rfl
theorem jw_365 : Cond.instanceMethod yX0_doneBefore ∈ jj_G := jj_t6 (List.mem_of_getElem? (i := 49) (by decide +kernel)) rfl
theorem jw_366 : Cond.selects RX0 yX0_doneBefore yX0_doneBefore ∈ jj_G := jj_t6 (List.mem_of_getElem? (i := 50) (by decide +kernel)) rfl
theorem jn_X0_doneBefore : jj_N yX0_doneBefore 1 := by unfold jj_N; decide +kernel
theorem jw_368 : Cond.methodLink RX10 356 yX0_dropDoneRequests ∈ jj_G := jj_t6 (List.mem_of_getElem? (i := 52) (by decide +kernel)) rfl
theorem jw_369 : Cond.code yX0_dropDoneRequests cX0_dropDoneRequests 4 (some .int) ∈ jj_G := jj_t3 (List.mem_of_getElem? (i := 145) (by decide +kernel)) rfl
theorem jw_370 : Cond.instanceMethod yX0_dropDoneRequests ∈ jj_G := jj_t3 (List.mem_of_getElem? (i := 143) (by decide +kernel)) rfl
theorem jw_371 : Cond.selects RX0 yX0_dropDoneRequests yX0_dropDoneRequests ∈ jj_G := jj_t3 (List.mem_of_getElem? (i := 144) (by decide +kernel)) rfl
theorem jn_X0_dropDoneRequests : jj_N yX0_dropDoneRequests 0 := by unfold jj_N; decide +kernel
theorem jw_374 : Cond.code yX2_earningFault cX2_earningFault 5 (some .int) ∈ jj_G := jj_t4 (List.mem_of_getElem? (i := 51) (by decide +kernel)) rfl
theorem jw_375 : Cond.methodLink RX2 23 yX8_assetsAfter ∈ jj_G := jj_t4 (List.mem_of_getElem? (i := 52) (by decide +kernel)) rfl
theorem jw_376 : Cond.constantLong RX2 29 (1000000000) ∈ jj_G := jj_t4 (List.mem_of_getElem? (i := 53) (by decide +kernel)) rfl
theorem jw_377 : Cond.methodLink RX2 31 yX8_priceWith ∈ jj_G := jj_t4 (List.mem_of_getElem? (i := 54) (by decide +kernel)) rfl
theorem jw_378 : Cond.constantLong RX2 35 (100000000) ∈ jj_G := jj_t4 (List.mem_of_getElem? (i := 58) (by decide +kernel)) rfl
theorem jw_379 : Cond.static yX2_earningFault ∈ jj_G := jj_t4 (List.mem_of_getElem? (i := 50) (by decide +kernel)) rfl
theorem jn_X2_earningFault : jj_N yX2_earningFault 2 := by unfold jj_N; decide +kernel
theorem jw_383 : Cond.fieldLink RX10 44 "SeriesFund" "newest" "I" ∈ jj_G := jj_t2 (List.mem_of_getElem? (i := 104) (by decide +kernel)) rfl
theorem jw_384 : Cond.fieldLink RX10 40 "SeriesFund" "past" "[LSeriesFund$Book;" ∈ jj_G := jj_t2 (List.mem_of_getElem? (i := 103) (by decide +kernel)) rfl
theorem jw_385 : Cond.fieldLink RX10 47 "SeriesFund" "remembered" "I" ∈ jj_G := jj_t2 (List.mem_of_getElem? (i := 105) (by decide +kernel)) rfl
theorem jw_389 : Cond.methodLink RX10 144 yX2_earnRate ∈ jj_G := jj_t5 (List.mem_of_getElem? (i := 98) (by decide +kernel)) rfl
theorem jw_390 : Cond.code yX2_earnRate cX2_earnRate 7 (some .long) ∈ jj_G := jj_t4 (List.mem_of_getElem? (i := 66) (by decide +kernel)) rfl
theorem jw_391 : Cond.static yX2_earnRate ∈ jj_G := jj_t4 (List.mem_of_getElem? (i := 65) (by decide +kernel)) rfl
theorem jn_X2_earnRate : jj_N yX2_earnRate 2 := by unfold jj_N; decide +kernel
theorem jw_393 : Cond.methodLink RX10 271 yX8_accruedFee ∈ jj_G := jj_t5 (List.mem_of_getElem? (i := 178) (by decide +kernel)) rfl
theorem jw_394 : Cond.methodLink RX10 315 yX10_checkInvestor ∈ jj_G := jj_t5 (List.mem_of_getElem? (i := 208) (by decide +kernel)) rfl
theorem jw_395 : Cond.code yX10_checkInvestor cX10_checkInvestor 2 none ∈ jj_G := jj_t5 (List.mem_of_getElem? (i := 211) (by decide +kernel)) rfl
theorem jw_396 : Cond.methodLink RX10 205 yX0_hasInvestor ∈ jj_G := jj_t5 (List.mem_of_getElem? (i := 212) (by decide +kernel)) rfl
theorem jw_397 : Cond.code yX0_hasInvestor cX0_hasInvestor 2 (some .boolean) ∈ jj_G := jj_t4 (List.mem_of_getElem? (i := 37) (by decide +kernel)) rfl
theorem jw_398 : Cond.instanceMethod yX0_hasInvestor ∈ jj_G := jj_t4 (List.mem_of_getElem? (i := 35) (by decide +kernel)) rfl
theorem jw_399 : Cond.selects RX0 yX0_hasInvestor yX0_hasInvestor ∈ jj_G := jj_t4 (List.mem_of_getElem? (i := 36) (by decide +kernel)) rfl
theorem jn_X0_hasInvestor : jj_N yX0_hasInvestor 1 := by unfold jj_N; decide +kernel
theorem jw_401 : Cond.instanceMethod yX10_checkInvestor ∈ jj_G := jj_t5 (List.mem_of_getElem? (i := 210) (by decide +kernel)) rfl
theorem jw_402 : Cond.selects RX10 yX10_checkInvestor yX10_checkInvestor ∈ jj_G := jj_pv (q := (yX10_checkInvestor, 10)) (by decide +kernel)
theorem jn_X10_checkInvestor : jj_N yX10_checkInvestor 1 := by unfold jj_N; decide +kernel
theorem jw_404 : Cond.methodLink RX10 318 yX0_unitsHeldIn ∈ jj_G := jj_t5 (List.mem_of_getElem? (i := 220) (by decide +kernel)) rfl
theorem jw_405 : Cond.code yX0_unitsHeldIn cX0_unitsHeldIn 6 (some .long) ∈ jj_G := jj_t4 (List.mem_of_getElem? (i := 143) (by decide +kernel)) rfl
theorem jw_406 : Cond.instanceMethod yX0_unitsHeldIn ∈ jj_G := jj_t4 (List.mem_of_getElem? (i := 141) (by decide +kernel)) rfl
theorem jw_407 : Cond.selects RX0 yX0_unitsHeldIn yX0_unitsHeldIn ∈ jj_G := jj_t4 (List.mem_of_getElem? (i := 142) (by decide +kernel)) rfl
theorem jn_X0_unitsHeldIn : jj_N yX0_unitsHeldIn 2 := by unfold jj_N; decide +kernel
theorem jw_409 : Cond.fieldLink RX10 290 "SeriesFund$Book" "lots" "[LSeriesFund$Lot;" ∈ jj_G := jj_t2 (List.mem_of_getElem? (i := 17) (by decide +kernel)) rfl
theorem jw_410 : Cond.fieldLink RX10 294 "SeriesFund$Lot" "investor" "I" ∈ jj_G := jj_t1 (List.mem_of_getElem? (i := 133) (by decide +kernel)) rfl
theorem jw_411 : Cond.fieldLink RX10 299 "SeriesFund$Lot" "series" "I" ∈ jj_G := jj_t1 (List.mem_of_getElem? (i := 138) (by decide +kernel)) rfl
theorem jw_412 : Cond.fieldLink RX10 301 "SeriesFund$Lot" "units" "J" ∈ jj_G := jj_t1 (List.mem_of_getElem? (i := 146) (by decide +kernel)) rfl
theorem jw_413 : Cond.fieldLink RX10 302 "SeriesFund$Lot" "entryPrice" "J" ∈ jj_G := jj_t1 (List.mem_of_getElem? (i := 151) (by decide +kernel)) rfl
theorem jw_414 : Cond.fieldLink RX10 305 "SeriesFund$Lot" "credit" "J" ∈ jj_G := jj_t1 (List.mem_of_getElem? (i := 156) (by decide +kernel)) rfl
theorem jw_415 : Cond.fieldLink RX10 308 "SeriesFund$Lot" "day" "I" ∈ jj_G := jj_t1 (List.mem_of_getElem? (i := 141) (by decide +kernel)) rfl
theorem jw_416 : Cond.fieldLink RX10 254 "SeriesFund$Series" "number" "I" ∈ jj_G := jj_t1 (List.mem_of_getElem? (i := 94) (by decide +kernel)) rfl
theorem jw_418 : Cond.code yX2_passingFault cX2_passingFault 1 (some .int) ∈ jj_G := jj_t4 (List.mem_of_getElem? (i := 61) (by decide +kernel)) rfl
theorem jw_419 : Cond.static yX2_passingFault ∈ jj_G := jj_t4 (List.mem_of_getElem? (i := 60) (by decide +kernel)) rfl
theorem jn_X2_passingFault : jj_N yX2_passingFault 1 := by unfold jj_N; decide +kernel
theorem jw_421 : Cond.methodLink RX10 379 yX10_firstRateInReach ∈ jj_G := jj_t6 (List.mem_of_getElem? (i := 97) (by decide +kernel)) rfl
theorem jw_422 : Cond.code yX10_firstRateInReach cX10_firstRateInReach 10 (some .int) ∈ jj_G := jj_t6 (List.mem_of_getElem? (i := 100) (by decide +kernel)) rfl
theorem jw_423 : Cond.methodLink RX10 385 yX0_fallOfPay ∈ jj_G := jj_t6 (List.mem_of_getElem? (i := 101) (by decide +kernel)) rfl
theorem jw_424 : Cond.code yX0_fallOfPay cX0_fallOfPay 5 (some .long) ∈ jj_G := jj_t6 (List.mem_of_getElem? (i := 104) (by decide +kernel)) rfl
theorem jw_425 : Cond.methodLink RX0 102 yX0_canBeDue ∈ jj_G := jj_t6 (List.mem_of_getElem? (i := 105) (by decide +kernel)) rfl
theorem jw_426 : Cond.code yX0_canBeDue cX0_canBeDue 3 (some .boolean) ∈ jj_G := jj_t6 (List.mem_of_getElem? (i := 108) (by decide +kernel)) rfl
theorem jw_427 : Cond.methodLink RX0 110 yX0_placeOfSeries ∈ jj_G := jj_t6 (List.mem_of_getElem? (i := 109) (by decide +kernel)) rfl
theorem jw_428 : Cond.fieldLink RX0 117 "SeriesFund$Series" "mark" "J" ∈ jj_G := jj_t1 (List.mem_of_getElem? (i := 111) (by decide +kernel)) rfl
theorem jw_429 : Cond.instanceMethod yX0_canBeDue ∈ jj_G := jj_t6 (List.mem_of_getElem? (i := 107) (by decide +kernel)) rfl
theorem jw_430 : Cond.selects RX0 yX0_canBeDue yX0_canBeDue ∈ jj_G := jj_pv (q := (yX0_canBeDue, 14)) (by decide +kernel)
theorem jn_X0_canBeDue : jj_N yX0_canBeDue 1 := by unfold jj_N; decide +kernel
theorem jw_432 : Cond.constantLong RX0 106 (5) ∈ jj_G := jj_t6 (List.mem_of_getElem? (i := 110) (by decide +kernel)) rfl
theorem jw_433 : Cond.constantLong RX0 108 (100000) ∈ jj_G := jj_t6 (List.mem_of_getElem? (i := 111) (by decide +kernel)) rfl
theorem jw_434 : Cond.instanceMethod yX0_fallOfPay ∈ jj_G := jj_t6 (List.mem_of_getElem? (i := 102) (by decide +kernel)) rfl
theorem jw_435 : Cond.selects RX0 yX0_fallOfPay yX0_fallOfPay ∈ jj_G := jj_t6 (List.mem_of_getElem? (i := 103) (by decide +kernel)) rfl
theorem jn_X0_fallOfPay : jj_N yX0_fallOfPay 1 := by unfold jj_N; decide +kernel
theorem jw_437 : Cond.methodLink RX10 322 yX1_payAfterRate ∈ jj_G := jj_t5 (List.mem_of_getElem? (i := 228) (by decide +kernel)) rfl
theorem jw_438 : Cond.code yX1_payAfterRate cX1_payAfterRate 4 (some .long) ∈ jj_G := jj_t5 (List.mem_of_getElem? (i := 231) (by decide +kernel)) rfl
theorem jw_439 : Cond.constantLong RX1 95 (9223372036854775807) ∈ jj_G := jj_t5 (List.mem_of_getElem? (i := 232) (by decide +kernel)) rfl
theorem jw_440 : Cond.instanceMethod yX1_payAfterRate ∈ jj_G := jj_t5 (List.mem_of_getElem? (i := 229) (by decide +kernel)) rfl
theorem jw_441 : Cond.selects RX1 yX1_payAfterRate yX1_payAfterRate ∈ jj_G := jj_t5 (List.mem_of_getElem? (i := 230) (by decide +kernel)) rfl
theorem jn_X1_payAfterRate : jj_N yX1_payAfterRate 3 := by unfold jj_N; decide +kernel
theorem jw_443 : Cond.instanceMethod yX10_firstRateInReach ∈ jj_G := jj_t6 (List.mem_of_getElem? (i := 99) (by decide +kernel)) rfl
theorem jw_444 : Cond.selects RX10 yX10_firstRateInReach yX10_firstRateInReach ∈ jj_G := jj_pv (q := (yX10_firstRateInReach, 10)) (by decide +kernel)
theorem jn_X10_firstRateInReach : jj_N yX10_firstRateInReach 2 := by unfold jj_N; decide +kernel
theorem jw_447 : Cond.code yX0_redemptionFault cX0_redemptionFault 3 (some .int) ∈ jj_G := jj_t4 (List.mem_of_getElem? (i := 42) (by decide +kernel)) rfl
theorem jw_448 : Cond.methodLink RX0 135 yX0_hasInvestor ∈ jj_G := jj_t4 (List.mem_of_getElem? (i := 34) (by decide +kernel)) rfl
theorem jw_449 : Cond.constant RX0 139 (99999999) ∈ jj_G := jj_t4 (List.mem_of_getElem? (i := 43) (by decide +kernel)) rfl
theorem jw_450 : Cond.methodLink RX0 143 yX0_unitsWaitingOf ∈ jj_G := jj_t4 (List.mem_of_getElem? (i := 44) (by decide +kernel)) rfl
theorem jw_451 : Cond.code yX0_unitsWaitingOf cX0_unitsWaitingOf 5 (some .long) ∈ jj_G := jj_t4 (List.mem_of_getElem? (i := 47) (by decide +kernel)) rfl
theorem jw_452 : Cond.fieldLink RX0 162 "SeriesFund$Request" "redemption" "Z" ∈ jj_G := jj_t1 (List.mem_of_getElem? (i := 184) (by decide +kernel)) rfl
theorem jw_453 : Cond.fieldLink RX0 166 "SeriesFund$Request" "investor" "I" ∈ jj_G := jj_t1 (List.mem_of_getElem? (i := 177) (by decide +kernel)) rfl
theorem jw_454 : Cond.instanceMethod yX0_unitsWaitingOf ∈ jj_G := jj_t4 (List.mem_of_getElem? (i := 45) (by decide +kernel)) rfl
theorem jw_455 : Cond.selects RX0 yX0_unitsWaitingOf yX0_unitsWaitingOf ∈ jj_G := jj_t4 (List.mem_of_getElem? (i := 46) (by decide +kernel)) rfl
theorem jn_X0_unitsWaitingOf : jj_N yX0_unitsWaitingOf 1 := by unfold jj_N; decide +kernel
theorem jw_457 : Cond.methodLink RX0 140 yX0_unitsHeldBy ∈ jj_G := jj_t4 (List.mem_of_getElem? (i := 48) (by decide +kernel)) rfl
theorem jw_458 : Cond.instanceMethod yX0_redemptionFault ∈ jj_G := jj_t4 (List.mem_of_getElem? (i := 40) (by decide +kernel)) rfl
theorem jw_459 : Cond.selects RX0 yX0_redemptionFault yX0_redemptionFault ∈ jj_G := jj_t4 (List.mem_of_getElem? (i := 41) (by decide +kernel)) rfl
theorem jn_X0_redemptionFault : jj_N yX0_redemptionFault 2 := by unfold jj_N; decide +kernel
theorem jw_462 : Cond.code yX0_addRequest cX0_addRequest 7 (some .int) ∈ jj_G := jj_t3 (List.mem_of_getElem? (i := 30) (by decide +kernel)) rfl
theorem jw_463 : Cond.fieldLink RX0 170 "SeriesFund$Request" "redeemed" "J" ∈ jj_G := jj_t1 (List.mem_of_getElem? (i := 192) (by decide +kernel)) rfl
theorem jw_464 : Cond.fieldLink RX0 173 "SeriesFund$Request" "day" "I" ∈ jj_G := jj_t1 (List.mem_of_getElem? (i := 180) (by decide +kernel)) rfl
theorem jw_465 : Cond.instanceMethod yX0_addRequest ∈ jj_G := jj_t3 (List.mem_of_getElem? (i := 28) (by decide +kernel)) rfl
theorem jw_466 : Cond.selects RX0 yX0_addRequest yX0_addRequest ∈ jj_G := jj_t3 (List.mem_of_getElem? (i := 29) (by decide +kernel)) rfl
theorem jn_X0_addRequest : jj_N yX0_addRequest 3 := by unfold jj_N; decide +kernel
theorem jw_468 : Cond.fieldLink RX10 53 "SeriesFund" "report" "LSeriesFund$Report;" ∈ jj_G := jj_t2 (List.mem_of_getElem? (i := 106) (by decide +kernel)) rfl
theorem jw_469 : Cond.fieldLink RX10 393 "SeriesFund$Report" "length" "I" ∈ jj_G := jj_t2 (List.mem_of_getElem? (i := 87) (by decide +kernel)) rfl
theorem jw_471 : Cond.laysFinal RX5 "SeriesFund$Report" "bytes" "[B" ∈ jj_G := jj_t2 (List.mem_of_getElem? (i := 89) (by decide +kernel)) rfl
theorem jw_472 : Cond.lays RX5 "SeriesFund$Report" "length" "I" ∈ jj_G := jj_t2 (List.mem_of_getElem? (i := 91) (by decide +kernel)) rfl
theorem jw_473 : Cond.laysFinal RX5 "SeriesFund$Report" "digits" "[B" ∈ jj_G := jj_t2 (List.mem_of_getElem? (i := 93) (by decide +kernel)) rfl
theorem ju_6 : ∀ w ∈ u_ws RX5 TX5 3, w ∈ jj_G := by
  intro w hw
  obtain ⟨k, hk, rfl⟩ := List.mem_map.mp hw
  have hk := List.mem_range.mp hk
  match k, hk with
  | 0, _ => exact jw_471
  | 1, _ => exact jw_472
  | 2, _ => exact jw_473
  | n + 3, hk => exact absurd hk (by omega)
theorem jk_6 : jj_K 6 RX5 TX5 3 tyX5 := ⟨rfl, ju_6, tyX5_ok, nmX5⟩
theorem jd_6 : ∀ j, j < 3 → defaultValue (tyX5 j) = vp_V [.null, .int 0, .null] j := by
  intro j hj
  match j, hj with
  | 0, _ => rfl
  | 1, _ => rfl
  | 2, _ => rfl
  | n + 3, hj => exact absurd hj (by omega)
theorem jw_474 : Cond.fieldLink RX10 398 "SeriesFund$Report" "bytes" "[B" ∈ jj_G := jj_t2 (List.mem_of_getElem? (i := 85) (by decide +kernel)) rfl
theorem jw_475 : Cond.fieldLink RX10 309 "SeriesFund$Request" "investor" "I" ∈ jj_G := jj_t1 (List.mem_of_getElem? (i := 178) (by decide +kernel)) rfl
theorem jw_476 : Cond.fieldLink RX10 129 "SeriesFund$Request" "quantity" "J" ∈ jj_G := jj_t1 (List.mem_of_getElem? (i := 188) (by decide +kernel)) rfl
theorem jw_477 : Cond.fieldLink RX10 314 "SeriesFund$Request" "day" "I" ∈ jj_G := jj_t1 (List.mem_of_getElem? (i := 181) (by decide +kernel)) rfl
theorem jw_478 : Cond.methodLink RX10 326 yX10_placeInRanking ∈ jj_G := jj_t6 (List.mem_of_getElem? (i := 0) (by decide +kernel)) rfl
theorem jw_479 : Cond.code yX10_placeInRanking cX10_placeInRanking 8 (some .int) ∈ jj_G := jj_t6 (List.mem_of_getElem? (i := 3) (by decide +kernel)) rfl
theorem jw_480 : Cond.instanceMethod yX10_placeInRanking ∈ jj_G := jj_t6 (List.mem_of_getElem? (i := 2) (by decide +kernel)) rfl
theorem jw_481 : Cond.selects RX10 yX10_placeInRanking yX10_placeInRanking ∈ jj_G := jj_pv (q := (yX10_placeInRanking, 10)) (by decide +kernel)
theorem jn_X10_placeInRanking : jj_N yX10_placeInRanking 1 := by unfold jj_N; decide +kernel
theorem jw_483 : Cond.fieldLink RX10 262 "SeriesFund$Series" "assets" "J" ∈ jj_G := jj_t1 (List.mem_of_getElem? (i := 101) (by decide +kernel)) rfl
theorem jw_484 : Cond.fieldLink RX10 265 "SeriesFund$Series" "units" "J" ∈ jj_G := jj_t1 (List.mem_of_getElem? (i := 106) (by decide +kernel)) rfl
theorem jw_485 : Cond.methodLink RX10 274 yX8_grossPrice ∈ jj_G := jj_t5 (List.mem_of_getElem? (i := 179) (by decide +kernel)) rfl
theorem jw_486 : Cond.methodLink RX10 277 yX8_netPrice ∈ jj_G := jj_t5 (List.mem_of_getElem? (i := 180) (by decide +kernel)) rfl
theorem jw_487 : Cond.code yX8_netPrice cX8_netPrice 2 (some .long) ∈ jj_G := jj_t4 (List.mem_of_getElem? (i := 137) (by decide +kernel)) rfl
theorem jw_488 : Cond.methodLink RX8 32 yX8_accruedFee ∈ jj_G := jj_t4 (List.mem_of_getElem? (i := 138) (by decide +kernel)) rfl
theorem jw_489 : Cond.methodLink RX8 36 yX8_priceWith ∈ jj_G := jj_t4 (List.mem_of_getElem? (i := 139) (by decide +kernel)) rfl
theorem jw_490 : Cond.instanceMethod yX8_netPrice ∈ jj_G := jj_t4 (List.mem_of_getElem? (i := 135) (by decide +kernel)) rfl
theorem jw_491 : Cond.selects RX8 yX8_netPrice yX8_netPrice ∈ jj_G := jj_t4 (List.mem_of_getElem? (i := 136) (by decide +kernel)) rfl
theorem jn_X8_netPrice : jj_N yX8_netPrice 1 := by unfold jj_N; decide +kernel
theorem jw_493 : Cond.fieldLink RX10 280 "SeriesFund$Series" "startDay" "I" ∈ jj_G := jj_t1 (List.mem_of_getElem? (i := 96) (by decide +kernel)) rfl
theorem jw_494 : Cond.methodLink RX10 283 yX0_lotsOfSeries ∈ jj_G := jj_t5 (List.mem_of_getElem? (i := 181) (by decide +kernel)) rfl
theorem jw_495 : Cond.code yX0_lotsOfSeries cX0_lotsOfSeries 4 (some .int) ∈ jj_G := jj_t5 (List.mem_of_getElem? (i := 184) (by decide +kernel)) rfl
theorem jw_496 : Cond.instanceMethod yX0_lotsOfSeries ∈ jj_G := jj_t5 (List.mem_of_getElem? (i := 182) (by decide +kernel)) rfl
theorem jw_497 : Cond.selects RX0 yX0_lotsOfSeries yX0_lotsOfSeries ∈ jj_G := jj_t5 (List.mem_of_getElem? (i := 183) (by decide +kernel)) rfl
theorem jn_X0_lotsOfSeries : jj_N yX0_lotsOfSeries 1 := by unfold jj_N; decide +kernel
theorem jw_502 : Cond.code yX0_subscriptionFault cX0_subscriptionFault 3 (some .int) ∈ jj_G := jj_t4 (List.mem_of_getElem? (i := 33) (by decide +kernel)) rfl
theorem jw_503 : Cond.constant RX0 161 (9999999) ∈ jj_G := jj_t4 (List.mem_of_getElem? (i := 38) (by decide +kernel)) rfl
theorem jw_504 : Cond.instanceMethod yX0_subscriptionFault ∈ jj_G := jj_t4 (List.mem_of_getElem? (i := 31) (by decide +kernel)) rfl
theorem jw_505 : Cond.selects RX0 yX0_subscriptionFault yX0_subscriptionFault ∈ jj_G := jj_t4 (List.mem_of_getElem? (i := 32) (by decide +kernel)) rfl
theorem jn_X0_subscriptionFault : jj_N yX0_subscriptionFault 2 := by unfold jj_N; decide +kernel
theorem jw_508 : Cond.code yX0_transferFault cX0_transferFault 4 (some .int) ∈ jj_G := jj_t5 (List.mem_of_getElem? (i := 118) (by decide +kernel)) rfl
theorem jw_509 : Cond.methodLink RX0 146 yX0_splitsLot ∈ jj_G := jj_t5 (List.mem_of_getElem? (i := 119) (by decide +kernel)) rfl
theorem jw_510 : Cond.code yX0_splitsLot cX0_splitsLot 7 (some .boolean) ∈ jj_G := jj_t5 (List.mem_of_getElem? (i := 122) (by decide +kernel)) rfl
theorem jw_511 : Cond.instanceMethod yX0_splitsLot ∈ jj_G := jj_t5 (List.mem_of_getElem? (i := 121) (by decide +kernel)) rfl
theorem jw_512 : Cond.selects RX0 yX0_splitsLot yX0_splitsLot ∈ jj_G := jj_pv (q := (yX0_splitsLot, 14)) (by decide +kernel)
theorem jn_X0_splitsLot : jj_N yX0_splitsLot 2 := by unfold jj_N; decide +kernel
theorem jw_518 : Cond.code yX0_moveUnits cX0_moveUnits 12 none ∈ jj_G := jj_t5 (List.mem_of_getElem? (i := 126) (by decide +kernel)) rfl
theorem jw_519 : Cond.methodLink RX0 150 yJ9_min_f86c9 ∈ jj_G := jj_t5 (List.mem_of_getElem? (i := 127) (by decide +kernel)) rfl
theorem jw_520 : Cond.methodLink RX0 153 yX0_splitLot ∈ jj_G := jj_t5 (List.mem_of_getElem? (i := 128) (by decide +kernel)) rfl
theorem jw_521 : Cond.code yX0_splitLot cX0_splitLot 8 none ∈ jj_G := jj_t5 (List.mem_of_getElem? (i := 131) (by decide +kernel)) rfl
theorem jw_522 : Cond.methodLink RX0 157 yX0_addLot ∈ jj_G := jj_t5 (List.mem_of_getElem? (i := 132) (by decide +kernel)) rfl
theorem jw_523 : Cond.instanceMethod yX0_splitLot ∈ jj_G := jj_t5 (List.mem_of_getElem? (i := 130) (by decide +kernel)) rfl
theorem jw_524 : Cond.selects RX0 yX0_splitLot yX0_splitLot ∈ jj_G := jj_pv (q := (yX0_splitLot, 14)) (by decide +kernel)
theorem jn_X0_splitLot : jj_N yX0_splitLot 3 := by unfold jj_N; decide +kernel
theorem jw_529 : Cond.methodLink RX10 170 yX0_unitsHeldBy ∈ jj_G := jj_t5 (List.mem_of_getElem? (i := 133) (by decide +kernel)) rfl
theorem jw_531 : Cond.code yX0_removeRequest cX0_removeRequest 2 none ∈ jj_G := jj_t5 (List.mem_of_getElem? (i := 88) (by decide +kernel)) rfl
theorem jw_532 : Cond.methodLink RX0 174 yX0_dropDoneRequests ∈ jj_G := jj_t5 (List.mem_of_getElem? (i := 89) (by decide +kernel)) rfl
theorem jw_536 : Cond.fieldLink RX10 344 "SeriesFund$Request" "redeemed" "J" ∈ jj_G := jj_t1 (List.mem_of_getElem? (i := 193) (by decide +kernel)) rfl
theorem jw_538 : Cond.code yX9_takeBuffer cX9_takeBuffer 1 none ∈ jj_G := jj_t2 (List.mem_of_getElem? (i := 135) (by decide +kernel)) rfl
theorem jw_539 : Cond.fieldLink RX9 19 "SeriesFund$Tokens" "length" "I" ∈ jj_G := jj_t1 (List.mem_of_getElem? (i := 44) (by decide +kernel)) rfl
theorem jw_540 : Cond.fieldLink RX9 25 "SeriesFund$Tokens" "start" "I" ∈ jj_G := jj_t1 (List.mem_of_getElem? (i := 46) (by decide +kernel)) rfl
theorem jw_541 : Cond.fieldLink RX9 22 "SeriesFund$Tokens" "end" "I" ∈ jj_G := jj_t1 (List.mem_of_getElem? (i := 45) (by decide +kernel)) rfl
theorem jw_542 : Cond.fieldLink RX9 28 "SeriesFund$Tokens" "kind" "I" ∈ jj_G := jj_t1 (List.mem_of_getElem? (i := 48) (by decide +kernel)) rfl
theorem jw_547 : Cond.code yX3_readAll cX3_readAll 1 (some .boolean) ∈ jj_G := jj_t2 (List.mem_of_getElem? (i := 156) (by decide +kernel)) rfl
theorem jw_548 : Cond.initialized RX3 ∈ jj_G := jj_t1 (List.mem_of_getElem? (i := 15) (by decide +kernel)) rfl
theorem jw_549 : Cond.fieldLink RX3 19 "SeriesFund$FundText" "book" "LSeriesFund$Book;" ∈ jj_G := jj_t2 (List.mem_of_getElem? (i := 143) (by decide +kernel)) rfl
theorem jw_551 : Cond.laysFinal RX3 "SeriesFund$FundText" "tokens" "LSeriesFund$Tokens;" ∈ jj_G := jj_t2 (List.mem_of_getElem? (i := 146) (by decide +kernel)) rfl
theorem jw_552 : Cond.laysFinal RX3 "SeriesFund$FundText" "book" "LSeriesFund$Book;" ∈ jj_G := jj_t2 (List.mem_of_getElem? (i := 148) (by decide +kernel)) rfl
theorem jw_553 : Cond.lays RX3 "SeriesFund$FundText" "code" "I" ∈ jj_G := jj_t2 (List.mem_of_getElem? (i := 150) (by decide +kernel)) rfl
theorem ju_4 : ∀ w ∈ u_ws RX3 TX3 3, w ∈ jj_G := by
  intro w hw
  obtain ⟨k, hk, rfl⟩ := List.mem_map.mp hw
  have hk := List.mem_range.mp hk
  match k, hk with
  | 0, _ => exact jw_551
  | 1, _ => exact jw_552
  | 2, _ => exact jw_553
  | n + 3, hk => exact absurd hk (by omega)
theorem jk_4 : jj_K 4 RX3 TX3 3 tyX3 := ⟨rfl, ju_4, tyX3_ok, nmX3⟩
theorem jd_4 : ∀ j, j < 3 → defaultValue (tyX3 j) = vp_V [.null, .null, .int 0] j := by
  intro j hj
  match j, hj with
  | 0, _ => rfl
  | 1, _ => rfl
  | 2, _ => rfl
  | n + 3, hj => exact absurd hj (by omega)
theorem jw_554 : Cond.methodLink RX3 23 yX0_empty ∈ jj_G := jj_t2 (List.mem_of_getElem? (i := 157) (by decide +kernel)) rfl
theorem jw_555 : Cond.code yX0_empty cX0_empty 2 none ∈ jj_G := jj_t2 (List.mem_of_getElem? (i := 160) (by decide +kernel)) rfl
theorem jw_556 : Cond.instanceMethod yX0_empty ∈ jj_G := jj_t2 (List.mem_of_getElem? (i := 158) (by decide +kernel)) rfl
theorem jw_557 : Cond.selects RX0 yX0_empty yX0_empty ∈ jj_G := jj_t2 (List.mem_of_getElem? (i := 159) (by decide +kernel)) rfl
theorem jn_X0_empty : jj_N yX0_empty 0 := by unfold jj_N; decide +kernel
theorem jw_559 : Cond.methodLink RX3 28 yX3_readFund ∈ jj_G := jj_t2 (List.mem_of_getElem? (i := 161) (by decide +kernel)) rfl
theorem jw_560 : Cond.code yX3_readFund cX3_readFund 1 (some .boolean) ∈ jj_G := jj_t2 (List.mem_of_getElem? (i := 164) (by decide +kernel)) rfl
theorem jw_561 : Cond.methodLink RX3 40 yX3_readWord ∈ jj_G := jj_t2 (List.mem_of_getElem? (i := 166) (by decide +kernel)) rfl
theorem jw_562 : Cond.code yX3_readWord cX3_readWord 2 (some .boolean) ∈ jj_G := jj_t2 (List.mem_of_getElem? (i := 169) (by decide +kernel)) rfl
theorem jw_563 : Cond.fieldLink RX3 15 "SeriesFund$FundText" "tokens" "LSeriesFund$Tokens;" ∈ jj_G := jj_t2 (List.mem_of_getElem? (i := 142) (by decide +kernel)) rfl
theorem jw_564 : Cond.methodLink RX3 68 yX9_advance ∈ jj_G := jj_t2 (List.mem_of_getElem? (i := 170) (by decide +kernel)) rfl
theorem jw_565 : Cond.code yX9_advance cX9_advance 1 none ∈ jj_G := jj_t2 (List.mem_of_getElem? (i := 173) (by decide +kernel)) rfl
theorem jw_566 : Cond.methodLink RX9 34 yX9_isLetter ∈ jj_G := jj_t2 (List.mem_of_getElem? (i := 174) (by decide +kernel)) rfl
theorem jw_567 : Cond.code yX9_isLetter cX9_isLetter 2 (some .boolean) ∈ jj_G := jj_t2 (List.mem_of_getElem? (i := 177) (by decide +kernel)) rfl
theorem jw_568 : Cond.instanceMethod yX9_isLetter ∈ jj_G := jj_t2 (List.mem_of_getElem? (i := 176) (by decide +kernel)) rfl
theorem jw_569 : Cond.selects RX9 yX9_isLetter yX9_isLetter ∈ jj_G := jj_pv (q := (yX9_isLetter, 7)) (by decide +kernel)
theorem jn_X9_isLetter : jj_N yX9_isLetter 1 := by unfold jj_N; decide +kernel
theorem jw_571 : Cond.methodLink RX9 38 yX9_isDigit ∈ jj_G := jj_t2 (List.mem_of_getElem? (i := 178) (by decide +kernel)) rfl
theorem jw_572 : Cond.code yX9_isDigit cX9_isDigit 2 (some .boolean) ∈ jj_G := jj_t2 (List.mem_of_getElem? (i := 181) (by decide +kernel)) rfl
theorem jw_573 : Cond.instanceMethod yX9_isDigit ∈ jj_G := jj_t2 (List.mem_of_getElem? (i := 180) (by decide +kernel)) rfl
theorem jw_574 : Cond.selects RX9 yX9_isDigit yX9_isDigit ∈ jj_G := jj_pv (q := (yX9_isDigit, 7)) (by decide +kernel)
theorem jn_X9_isDigit : jj_N yX9_isDigit 1 := by unfold jj_N; decide +kernel
theorem jw_576 : Cond.fieldLink RX9 31 "SeriesFund$Tokens" "value" "I" ∈ jj_G := jj_t1 (List.mem_of_getElem? (i := 52) (by decide +kernel)) rfl
theorem jw_577 : Cond.instanceMethod yX9_advance ∈ jj_G := jj_t2 (List.mem_of_getElem? (i := 171) (by decide +kernel)) rfl
theorem jw_578 : Cond.selects RX9 yX9_advance yX9_advance ∈ jj_G := jj_t2 (List.mem_of_getElem? (i := 172) (by decide +kernel)) rfl
theorem jn_X9_advance : jj_N yX9_advance 0 := by unfold jj_N; decide +kernel
theorem jw_580 : Cond.methodLink RX3 73 yX9_isWord ∈ jj_G := jj_t2 (List.mem_of_getElem? (i := 182) (by decide +kernel)) rfl
theorem jw_581 : Cond.code yX9_isWord cX9_isWord 3 (some .boolean) ∈ jj_G := jj_t2 (List.mem_of_getElem? (i := 185) (by decide +kernel)) rfl
theorem jw_582 : Cond.methodLink RX9 41 yJ0_length_8abf5 ∈ jj_G := jj_t2 (List.mem_of_getElem? (i := 186) (by decide +kernel)) rfl
theorem jw_583 : Cond.code yJ0_length_8abf5 cJ0_length_8abf5 1 (some .int) ∈ jj_G := jj_t2 (List.mem_of_getElem? (i := 189) (by decide +kernel)) rfl
theorem jw_584 : Cond.initialized RJ0 ∈ jj_G := jj_t1 (List.mem_of_getElem? (i := 16) (by decide +kernel)) rfl
theorem jw_585 : Cond.fieldLink RJ0 9 "java/lang/String" "value" "[B" ∈ jj_G := jj_t9 (List.mem_of_getElem? (i := 82) (by decide +kernel)) rfl
theorem jw_586 : Cond.fieldLink RJ0 38 "java/lang/String" "COMPACT_STRINGS" "Z" ∈ jj_G := jj_t2 (List.mem_of_getElem? (i := 194) (by decide +kernel)) rfl
theorem jw_587 : Cond.fieldLink RJ0 15 "java/lang/String" "coder" "B" ∈ jj_G := jj_t9 (List.mem_of_getElem? (i := 83) (by decide +kernel)) rfl
theorem jw_588 : Cond.code yJ0_coder_7d493 cJ0_coder_7d493 1 (some .byte) ∈ jj_G := jj_t2 (List.mem_of_getElem? (i := 193) (by decide +kernel)) rfl
theorem jw_589 : Cond.methodLink RJ0 335 yJ0_coder_7d493 ∈ jj_G := jj_t2 (List.mem_of_getElem? (i := 190) (by decide +kernel)) rfl
theorem jw_590 : Cond.instanceMethod yJ0_coder_7d493 ∈ jj_G := jj_t2 (List.mem_of_getElem? (i := 191) (by decide +kernel)) rfl
theorem jw_591 : Cond.selects RJ0 yJ0_coder_7d493 yJ0_coder_7d493 ∈ jj_G := jj_t2 (List.mem_of_getElem? (i := 192) (by decide +kernel)) rfl
theorem jn_J0_coder_7d493 : jj_N yJ0_coder_7d493 0 := by unfold jj_N; decide +kernel
theorem jw_593 : Cond.instanceMethod yJ0_length_8abf5 ∈ jj_G := jj_t2 (List.mem_of_getElem? (i := 187) (by decide +kernel)) rfl
theorem jw_594 : Cond.selects RJ0 yJ0_length_8abf5 yJ0_length_8abf5 ∈ jj_G := jj_t2 (List.mem_of_getElem? (i := 188) (by decide +kernel)) rfl
theorem jn_J0_length_8abf5 : jj_N yJ0_length_8abf5 0 := by unfold jj_N; decide +kernel
theorem jw_596 : Cond.methodLink RX9 46 yJ0_charAt_5068e ∈ jj_G := jj_t2 (List.mem_of_getElem? (i := 196) (by decide +kernel)) rfl
theorem jw_597 : Cond.code yJ0_charAt_5068e cJ0_charAt_5068e 2 (some .char) ∈ jj_G := jj_t2 (List.mem_of_getElem? (i := 199) (by decide +kernel)) rfl
theorem jw_598 : Cond.code yJ0_isLatin1_aae02 cJ0_isLatin1_aae02 1 (some .boolean) ∈ jj_G := jj_t2 (List.mem_of_getElem? (i := 203) (by decide +kernel)) rfl
theorem jw_599 : Cond.methodLink RJ0 492 yJ0_isLatin1_aae02 ∈ jj_G := jj_t2 (List.mem_of_getElem? (i := 200) (by decide +kernel)) rfl
theorem jw_600 : Cond.instanceMethod yJ0_isLatin1_aae02 ∈ jj_G := jj_t2 (List.mem_of_getElem? (i := 201) (by decide +kernel)) rfl
theorem jw_601 : Cond.selects RJ0 yJ0_isLatin1_aae02 yJ0_isLatin1_aae02 ∈ jj_G := jj_t2 (List.mem_of_getElem? (i := 202) (by decide +kernel)) rfl
theorem jn_J0_isLatin1_aae02 : jj_N yJ0_isLatin1_aae02 0 := by unfold jj_N; decide +kernel
theorem jw_603 : Cond.fieldLink RJ0 1053 "jdk/internal/util/Preconditions" "SIOOBE_FORMATTER" "Ljava/util/function/BiFunction;" ∈ jj_G := jj_t2 (List.mem_of_getElem? (i := 210) (by decide +kernel)) rfl
theorem jw_604 : Cond.code yJ3_checkIndex_8e157 cJ3_checkIndex_8e157 3 (some .int) ∈ jj_G := jj_t2 (List.mem_of_getElem? (i := 214) (by decide +kernel)) rfl
theorem jw_605 : Cond.methodLink RJ0 1059 yJ3_checkIndex_8e157 ∈ jj_G := jj_t2 (List.mem_of_getElem? (i := 212) (by decide +kernel)) rfl
theorem jw_606 : Cond.initialized RJ3 ∈ jj_G := jj_t1 (List.mem_of_getElem? (i := 18) (by decide +kernel)) rfl
theorem jw_607 : Cond.static yJ3_checkIndex_8e157 ∈ jj_G := jj_t2 (List.mem_of_getElem? (i := 213) (by decide +kernel)) rfl
theorem jn_J3_checkIndex_8e157 : jj_N yJ3_checkIndex_8e157 3 := by unfold jj_N; decide +kernel
theorem jw_609 : Cond.code yJ0_checkIndex_df160 cJ0_checkIndex_df160 2 none ∈ jj_G := jj_t2 (List.mem_of_getElem? (i := 209) (by decide +kernel)) rfl
theorem jw_610 : Cond.methodLink RJ1 9 yJ0_checkIndex_df160 ∈ jj_G := jj_t2 (List.mem_of_getElem? (i := 207) (by decide +kernel)) rfl
theorem jw_611 : Cond.static yJ0_checkIndex_df160 ∈ jj_G := jj_t2 (List.mem_of_getElem? (i := 208) (by decide +kernel)) rfl
theorem jn_J0_checkIndex_df160 : jj_N yJ0_checkIndex_df160 2 := by unfold jj_N; decide +kernel
theorem jw_613 : Cond.code yJ1_charAt_3b067 cJ1_charAt_3b067 2 (some .char) ∈ jj_G := jj_t2 (List.mem_of_getElem? (i := 206) (by decide +kernel)) rfl
theorem jw_614 : Cond.methodLink RJ0 495 yJ1_charAt_3b067 ∈ jj_G := jj_t2 (List.mem_of_getElem? (i := 204) (by decide +kernel)) rfl
theorem jw_615 : Cond.initialized RJ1 ∈ jj_G := jj_t1 (List.mem_of_getElem? (i := 17) (by decide +kernel)) rfl
theorem jw_616 : Cond.static yJ1_charAt_3b067 ∈ jj_G := jj_t2 (List.mem_of_getElem? (i := 205) (by decide +kernel)) rfl
theorem jn_J1_charAt_3b067 : jj_N yJ1_charAt_3b067 2 := by unfold jj_N; decide +kernel
theorem jw_618 : Cond.instanceMethod yJ0_charAt_5068e ∈ jj_G := jj_t2 (List.mem_of_getElem? (i := 197) (by decide +kernel)) rfl
theorem jw_619 : Cond.selects RJ0 yJ0_charAt_5068e yJ0_charAt_5068e ∈ jj_G := jj_t2 (List.mem_of_getElem? (i := 198) (by decide +kernel)) rfl
theorem jn_J0_charAt_5068e : jj_N yJ0_charAt_5068e 1 := by unfold jj_N; decide +kernel
theorem jw_621 : Cond.instanceMethod yX9_isWord ∈ jj_G := jj_t2 (List.mem_of_getElem? (i := 183) (by decide +kernel)) rfl
theorem jw_622 : Cond.selects RX9 yX9_isWord yX9_isWord ∈ jj_G := jj_t2 (List.mem_of_getElem? (i := 184) (by decide +kernel)) rfl
theorem jn_X9_isWord : jj_N yX9_isWord 1 := by unfold jj_N; decide +kernel
theorem jw_624 : Cond.methodLink RX3 81 yX3_accept ∈ jj_G := jj_t2 (List.mem_of_getElem? (i := 234) (by decide +kernel)) rfl
theorem jw_625 : Cond.code yX3_accept cX3_accept 3 (some .boolean) ∈ jj_G := jj_t2 (List.mem_of_getElem? (i := 237) (by decide +kernel)) rfl
theorem jw_626 : Cond.fieldLink RX3 9 "SeriesFund$FundText" "code" "I" ∈ jj_G := jj_t2 (List.mem_of_getElem? (i := 144) (by decide +kernel)) rfl
theorem jw_627 : Cond.instanceMethod yX3_accept ∈ jj_G := jj_t2 (List.mem_of_getElem? (i := 236) (by decide +kernel)) rfl
theorem jw_628 : Cond.selects RX3 yX3_accept yX3_accept ∈ jj_G := jj_pv (q := (yX3_accept, 3)) (by decide +kernel)
theorem jn_X3_accept : jj_N yX3_accept 2 := by unfold jj_N; decide +kernel
theorem jw_630 : Cond.instanceMethod yX3_readWord ∈ jj_G := jj_t2 (List.mem_of_getElem? (i := 168) (by decide +kernel)) rfl
theorem jw_631 : Cond.selects RX3 yX3_readWord yX3_readWord ∈ jj_G := jj_pv (q := (yX3_readWord, 3)) (by decide +kernel)
theorem jn_X3_readWord : jj_N yX3_readWord 1 := by unfold jj_N; decide +kernel
theorem jw_633 : Cond.methodLink RX3 44 yX3_readMethod ∈ jj_G := jj_t2 (List.mem_of_getElem? (i := 238) (by decide +kernel)) rfl
theorem jw_634 : Cond.code yX3_readMethod cX3_readMethod 1 (some .boolean) ∈ jj_G := jj_t3 (List.mem_of_getElem? (i := 1) (by decide +kernel)) rfl
theorem jw_635 : Cond.fieldLink RX3 76 "SeriesFund$Book" "method" "I" ∈ jj_G := jj_t1 (List.mem_of_getElem? (i := 210) (by decide +kernel)) rfl
theorem jw_636 : Cond.instanceMethod yX3_readMethod ∈ jj_G := jj_t3 (List.mem_of_getElem? (i := 0) (by decide +kernel)) rfl
theorem jw_637 : Cond.selects RX3 yX3_readMethod yX3_readMethod ∈ jj_G := jj_pv (q := (yX3_readMethod, 3)) (by decide +kernel)
theorem jn_X3_readMethod : jj_N yX3_readMethod 0 := by unfold jj_N; decide +kernel
theorem jw_639 : Cond.methodLink RX3 47 yX3_readNumber ∈ jj_G := jj_t3 (List.mem_of_getElem? (i := 4) (by decide +kernel)) rfl
theorem jw_640 : Cond.code yX3_readNumber cX3_readNumber 3 (some .boolean) ∈ jj_G := jj_t3 (List.mem_of_getElem? (i := 7) (by decide +kernel)) rfl
theorem jw_641 : Cond.fieldLink RX3 89 "SeriesFund$Tokens" "kind" "I" ∈ jj_G := jj_t1 (List.mem_of_getElem? (i := 50) (by decide +kernel)) rfl
theorem jw_642 : Cond.fieldLink RX3 51 "SeriesFund$Tokens" "value" "I" ∈ jj_G := jj_t1 (List.mem_of_getElem? (i := 54) (by decide +kernel)) rfl
theorem jw_643 : Cond.instanceMethod yX3_readNumber ∈ jj_G := jj_t3 (List.mem_of_getElem? (i := 6) (by decide +kernel)) rfl
theorem jw_644 : Cond.selects RX3 yX3_readNumber yX3_readNumber ∈ jj_G := jj_pv (q := (yX3_readNumber, 3)) (by decide +kernel)
theorem jn_X3_readNumber : jj_N yX3_readNumber 2 := by unfold jj_N; decide +kernel
theorem jw_646 : Cond.fieldLink RX3 56 "SeriesFund$Book" "managementRate" "I" ∈ jj_G := jj_t1 (List.mem_of_getElem? (i := 215) (by decide +kernel)) rfl
theorem jw_647 : Cond.fieldLink RX3 59 "SeriesFund$Book" "performanceFee" "I" ∈ jj_G := jj_t1 (List.mem_of_getElem? (i := 220) (by decide +kernel)) rfl
theorem jw_648 : Cond.fieldLink RX3 62 "SeriesFund$Book" "gate" "I" ∈ jj_G := jj_t1 (List.mem_of_getElem? (i := 225) (by decide +kernel)) rfl
theorem jw_649 : Cond.methodLink RX3 65 yX3_readSemicolon ∈ jj_G := jj_t3 (List.mem_of_getElem? (i := 8) (by decide +kernel)) rfl
theorem jw_650 : Cond.code yX3_readSemicolon cX3_readSemicolon 1 (some .boolean) ∈ jj_G := jj_t3 (List.mem_of_getElem? (i := 11) (by decide +kernel)) rfl
theorem jw_651 : Cond.instanceMethod yX3_readSemicolon ∈ jj_G := jj_t3 (List.mem_of_getElem? (i := 10) (by decide +kernel)) rfl
theorem jw_652 : Cond.selects RX3 yX3_readSemicolon yX3_readSemicolon ∈ jj_G := jj_pv (q := (yX3_readSemicolon, 3)) (by decide +kernel)
theorem jn_X3_readSemicolon : jj_N yX3_readSemicolon 0 := by unfold jj_N; decide +kernel
theorem jw_654 : Cond.instanceMethod yX3_readFund ∈ jj_G := jj_t2 (List.mem_of_getElem? (i := 163) (by decide +kernel)) rfl
theorem jw_655 : Cond.selects RX3 yX3_readFund yX3_readFund ∈ jj_G := jj_pv (q := (yX3_readFund, 3)) (by decide +kernel)
theorem jn_X3_readFund : jj_N yX3_readFund 0 := by unfold jj_N; decide +kernel
theorem jw_657 : Cond.methodLink RX3 32 yX3_readInvestors ∈ jj_G := jj_t3 (List.mem_of_getElem? (i := 12) (by decide +kernel)) rfl
theorem jw_658 : Cond.code yX3_readInvestors cX3_readInvestors 1 (some .boolean) ∈ jj_G := jj_t3 (List.mem_of_getElem? (i := 15) (by decide +kernel)) rfl
theorem jw_659 : Cond.fieldLink RX3 87 "SeriesFund$Book" "investors" "I" ∈ jj_G := jj_t1 (List.mem_of_getElem? (i := 207) (by decide +kernel)) rfl
theorem jw_660 : Cond.instanceMethod yX3_readInvestors ∈ jj_G := jj_t3 (List.mem_of_getElem? (i := 14) (by decide +kernel)) rfl
theorem jw_661 : Cond.selects RX3 yX3_readInvestors yX3_readInvestors ∈ jj_G := jj_pv (q := (yX3_readInvestors, 3)) (by decide +kernel)
theorem jn_X3_readInvestors : jj_N yX3_readInvestors 0 := by unfold jj_N; decide +kernel
theorem jw_663 : Cond.methodLink RX3 35 yX3_readSubscriptions ∈ jj_G := jj_t3 (List.mem_of_getElem? (i := 17) (by decide +kernel)) rfl
theorem jw_664 : Cond.code yX3_readSubscriptions cX3_readSubscriptions 2 (some .boolean) ∈ jj_G := jj_t3 (List.mem_of_getElem? (i := 20) (by decide +kernel)) rfl
theorem jw_665 : Cond.methodLink RX3 94 yX3_readSubscription ∈ jj_G := jj_t3 (List.mem_of_getElem? (i := 22) (by decide +kernel)) rfl
theorem jw_666 : Cond.code yX3_readSubscription cX3_readSubscription 2 (some .boolean) ∈ jj_G := jj_t3 (List.mem_of_getElem? (i := 25) (by decide +kernel)) rfl
theorem jw_667 : Cond.constant RX3 97 (9999999) ∈ jj_G := jj_t3 (List.mem_of_getElem? (i := 26) (by decide +kernel)) rfl
theorem jw_668 : Cond.methodLink RX3 98 yX0_addRequest ∈ jj_G := jj_t3 (List.mem_of_getElem? (i := 27) (by decide +kernel)) rfl
theorem jw_669 : Cond.instanceMethod yX3_readSubscription ∈ jj_G := jj_t3 (List.mem_of_getElem? (i := 24) (by decide +kernel)) rfl
theorem jw_670 : Cond.selects RX3 yX3_readSubscription yX3_readSubscription ∈ jj_G := jj_pv (q := (yX3_readSubscription, 3)) (by decide +kernel)
theorem jn_X3_readSubscription : jj_N yX3_readSubscription 0 := by unfold jj_N; decide +kernel
theorem jw_672 : Cond.instanceMethod yX3_readSubscriptions ∈ jj_G := jj_t3 (List.mem_of_getElem? (i := 19) (by decide +kernel)) rfl
theorem jw_673 : Cond.selects RX3 yX3_readSubscriptions yX3_readSubscriptions ∈ jj_G := jj_pv (q := (yX3_readSubscriptions, 3)) (by decide +kernel)
theorem jn_X3_readSubscriptions : jj_N yX3_readSubscriptions 0 := by unfold jj_N; decide +kernel
theorem jw_679 : Cond.fieldLink RX10 16 "SeriesFund" "parseCode" "I" ∈ jj_G := jj_t2 (List.mem_of_getElem? (i := 98) (by decide +kernel)) rfl
theorem jw_681 : Cond.fieldLink RX10 20 "SeriesFund" "parsePosition" "I" ∈ jj_G := jj_t2 (List.mem_of_getElem? (i := 99) (by decide +kernel)) rfl
theorem jw_683 : Cond.code yX1_holdDealing cX1_holdDealing 2 (some .int) ∈ jj_G := jj_t3 (List.mem_of_getElem? (i := 37) (by decide +kernel)) rfl
theorem jw_684 : Cond.methodLink RX1 34 yX1_baseOfRedemptions ∈ jj_G := jj_t3 (List.mem_of_getElem? (i := 38) (by decide +kernel)) rfl
theorem jw_685 : Cond.methodLink RX1 38 yX1_redeemWaiting ∈ jj_G := jj_t3 (List.mem_of_getElem? (i := 85) (by decide +kernel)) rfl
theorem jw_686 : Cond.methodLink RX1 42 yX1_subscribeWaiting ∈ jj_G := jj_t3 (List.mem_of_getElem? (i := 119) (by decide +kernel)) rfl
theorem jw_687 : Cond.methodLink RX1 46 yX0_dropDoneRequests ∈ jj_G := jj_t3 (List.mem_of_getElem? (i := 142) (by decide +kernel)) rfl
theorem jw_688 : Cond.instanceMethod yX1_holdDealing ∈ jj_G := jj_t3 (List.mem_of_getElem? (i := 35) (by decide +kernel)) rfl
theorem jw_689 : Cond.selects RX1 yX1_holdDealing yX1_holdDealing ∈ jj_G := jj_t3 (List.mem_of_getElem? (i := 36) (by decide +kernel)) rfl
theorem jn_X1_holdDealing : jj_N yX1_holdDealing 1 := by unfold jj_N; decide +kernel
theorem jw_691 : Cond.methodLink RX10 155 yX2_settleAll ∈ jj_G := jj_t3 (List.mem_of_getElem? (i := 179) (by decide +kernel)) rfl
theorem jw_692 : Cond.code yX2_settleAll cX2_settleAll 4 (some .long) ∈ jj_G := jj_t3 (List.mem_of_getElem? (i := 181) (by decide +kernel)) rfl
theorem jw_693 : Cond.methodLink RX2 59 yX0_dropEmptyLots ∈ jj_G := jj_t3 (List.mem_of_getElem? (i := 195) (by decide +kernel)) rfl
theorem jw_694 : Cond.methodLink RX2 62 yX0_closeEmptySeries ∈ jj_G := jj_t3 (List.mem_of_getElem? (i := 196) (by decide +kernel)) rfl
theorem jw_695 : Cond.methodLink RX2 53 yX2_settleSeries ∈ jj_G := jj_t3 (List.mem_of_getElem? (i := 182) (by decide +kernel)) rfl
theorem jw_696 : Cond.code yX2_settleSeries cX2_settleSeries 10 none ∈ jj_G := jj_t3 (List.mem_of_getElem? (i := 184) (by decide +kernel)) rfl
theorem jw_697 : Cond.methodLink RX2 65 yX8_grossPrice ∈ jj_G := jj_t3 (List.mem_of_getElem? (i := 185) (by decide +kernel)) rfl
theorem jw_698 : Cond.fieldLink RX2 69 "SeriesFund$Book" "performanceFee" "I" ∈ jj_G := jj_t1 (List.mem_of_getElem? (i := 221) (by decide +kernel)) rfl
theorem jw_699 : Cond.methodLink RX2 72 yX8_accruedFee ∈ jj_G := jj_t3 (List.mem_of_getElem? (i := 186) (by decide +kernel)) rfl
theorem jw_700 : Cond.fieldLink RX2 75 "SeriesFund$Book" "lotCount" "I" ∈ jj_G := jj_t2 (List.mem_of_getElem? (i := 0) (by decide +kernel)) rfl
theorem jw_701 : Cond.fieldLink RX2 78 "SeriesFund$Book" "lots" "[LSeriesFund$Lot;" ∈ jj_G := jj_t2 (List.mem_of_getElem? (i := 16) (by decide +kernel)) rfl
theorem jw_702 : Cond.fieldLink RX2 82 "SeriesFund$Lot" "series" "I" ∈ jj_G := jj_t1 (List.mem_of_getElem? (i := 137) (by decide +kernel)) rfl
theorem jw_703 : Cond.fieldLink RX2 86 "SeriesFund$Series" "number" "I" ∈ jj_G := jj_t1 (List.mem_of_getElem? (i := 92) (by decide +kernel)) rfl
theorem jw_704 : Cond.fieldLink RX2 89 "SeriesFund$Book" "method" "I" ∈ jj_G := jj_t1 (List.mem_of_getElem? (i := 211) (by decide +kernel)) rfl
theorem jw_705 : Cond.fieldLink RX2 99 "SeriesFund$Lot" "entryPrice" "J" ∈ jj_G := jj_t1 (List.mem_of_getElem? (i := 148) (by decide +kernel)) rfl
theorem jw_706 : Cond.fieldLink RX2 102 "SeriesFund$Lot" "credit" "J" ∈ jj_G := jj_t1 (List.mem_of_getElem? (i := 153) (by decide +kernel)) rfl
theorem jw_707 : Cond.methodLink RX2 92 yX2_giveBack ∈ jj_G := jj_t3 (List.mem_of_getElem? (i := 187) (by decide +kernel)) rfl
theorem jw_708 : Cond.code yX2_giveBack cX2_giveBack 13 none ∈ jj_G := jj_t3 (List.mem_of_getElem? (i := 189) (by decide +kernel)) rfl
theorem jw_709 : Cond.fieldLink RX2 105 "SeriesFund$Series" "mark" "J" ∈ jj_G := jj_t1 (List.mem_of_getElem? (i := 109) (by decide +kernel)) rfl
theorem jw_710 : Cond.methodLink RX2 108 yJ9_min_f86c9 ∈ jj_G := jj_t3 (List.mem_of_getElem? (i := 190) (by decide +kernel)) rfl
theorem jw_711 : Cond.fieldLink RX2 114 "SeriesFund$Lot" "units" "J" ∈ jj_G := jj_t1 (List.mem_of_getElem? (i := 145) (by decide +kernel)) rfl
theorem jw_712 : Cond.fieldLink RX2 117 "SeriesFund$Series" "units" "J" ∈ jj_G := jj_t1 (List.mem_of_getElem? (i := 104) (by decide +kernel)) rfl
theorem jw_713 : Cond.static yX2_giveBack ∈ jj_G := jj_t3 (List.mem_of_getElem? (i := 188) (by decide +kernel)) rfl
theorem jn_X2_giveBack : jj_N yX2_giveBack 5 := by unfold jj_N; decide +kernel
theorem jw_715 : Cond.methodLink RX2 96 yX2_takeDue ∈ jj_G := jj_t3 (List.mem_of_getElem? (i := 191) (by decide +kernel)) rfl
theorem jw_716 : Cond.code yX2_takeDue cX2_takeDue 13 none ∈ jj_G := jj_t3 (List.mem_of_getElem? (i := 193) (by decide +kernel)) rfl
theorem jw_717 : Cond.methodLink RX2 118 yX2_dueOn ∈ jj_G := jj_t3 (List.mem_of_getElem? (i := 194) (by decide +kernel)) rfl
theorem jw_718 : Cond.static yX2_takeDue ∈ jj_G := jj_t3 (List.mem_of_getElem? (i := 192) (by decide +kernel)) rfl
theorem jn_X2_takeDue : jj_N yX2_takeDue 5 := by unfold jj_N; decide +kernel
theorem jw_720 : Cond.static yX2_settleSeries ∈ jj_G := jj_t3 (List.mem_of_getElem? (i := 183) (by decide +kernel)) rfl
theorem jn_X2_settleSeries : jj_N yX2_settleSeries 2 := by unfold jj_N; decide +kernel
theorem jw_722 : Cond.static yX2_settleAll ∈ jj_G := jj_t3 (List.mem_of_getElem? (i := 180) (by decide +kernel)) rfl
theorem jn_X2_settleAll : jj_N yX2_settleAll 1 := by unfold jj_N; decide +kernel
theorem jw_724 : Cond.methodLink RX10 159 yX2_mergeAll ∈ jj_G := jj_t3 (List.mem_of_getElem? (i := 201) (by decide +kernel)) rfl
theorem jw_725 : Cond.code yX2_mergeAll cX2_mergeAll 6 (some .int) ∈ jj_G := jj_t3 (List.mem_of_getElem? (i := 203) (by decide +kernel)) rfl
theorem jw_726 : Cond.methodLink RX2 122 yX2_absorb ∈ jj_G := jj_t3 (List.mem_of_getElem? (i := 204) (by decide +kernel)) rfl
theorem jw_727 : Cond.code yX2_absorb cX2_absorb 9 none ∈ jj_G := jj_t3 (List.mem_of_getElem? (i := 206) (by decide +kernel)) rfl
theorem jw_728 : Cond.static yX2_absorb ∈ jj_G := jj_t3 (List.mem_of_getElem? (i := 205) (by decide +kernel)) rfl
theorem jn_X2_absorb : jj_N yX2_absorb 4 := by unfold jj_N; decide +kernel
theorem jw_730 : Cond.static yX2_mergeAll ∈ jj_G := jj_t3 (List.mem_of_getElem? (i := 202) (by decide +kernel)) rfl
theorem jn_X2_mergeAll : jj_N yX2_mergeAll 1 := by unfold jj_N; decide +kernel
theorem jw_735 : Cond.code yX7_readOperation cX7_readOperation 2 (some .boolean) ∈ jj_G := jj_t4 (List.mem_of_getElem? (i := 0) (by decide +kernel)) rfl
theorem jw_736 : Cond.initialized RX7 ∈ jj_G := jj_t1 (List.mem_of_getElem? (i := 24) (by decide +kernel)) rfl
theorem jw_737 : Cond.methodLink RX7 33 yX7_operationOfWord ∈ jj_G := jj_t4 (List.mem_of_getElem? (i := 1) (by decide +kernel)) rfl
theorem jw_738 : Cond.code yX7_operationOfWord cX7_operationOfWord 1 (some .int) ∈ jj_G := jj_t4 (List.mem_of_getElem? (i := 4) (by decide +kernel)) rfl
theorem jw_739 : Cond.fieldLink RX7 21 "SeriesFund$Script" "tokens" "LSeriesFund$Tokens;" ∈ jj_G := jj_t3 (List.mem_of_getElem? (i := 217) (by decide +kernel)) rfl
theorem jw_741 : Cond.laysFinal RX7 "SeriesFund$Script" "tokens" "LSeriesFund$Tokens;" ∈ jj_G := jj_t3 (List.mem_of_getElem? (i := 223) (by decide +kernel)) rfl
theorem jw_742 : Cond.laysFinal RX7 "SeriesFund$Script" "book" "LSeriesFund$Book;" ∈ jj_G := jj_t3 (List.mem_of_getElem? (i := 225) (by decide +kernel)) rfl
theorem jw_743 : Cond.laysFinal RX7 "SeriesFund$Script" "desk" "LSeriesFund$Desk;" ∈ jj_G := jj_t3 (List.mem_of_getElem? (i := 227) (by decide +kernel)) rfl
theorem jw_744 : Cond.lays RX7 "SeriesFund$Script" "operation" "I" ∈ jj_G := jj_t3 (List.mem_of_getElem? (i := 229) (by decide +kernel)) rfl
theorem jw_745 : Cond.lays RX7 "SeriesFund$Script" "first" "I" ∈ jj_G := jj_t3 (List.mem_of_getElem? (i := 231) (by decide +kernel)) rfl
theorem jw_746 : Cond.lays RX7 "SeriesFund$Script" "second" "I" ∈ jj_G := jj_t3 (List.mem_of_getElem? (i := 233) (by decide +kernel)) rfl
theorem ju_8 : ∀ w ∈ u_ws RX7 TX7 6, w ∈ jj_G := by
  intro w hw
  obtain ⟨k, hk, rfl⟩ := List.mem_map.mp hw
  have hk := List.mem_range.mp hk
  match k, hk with
  | 0, _ => exact jw_741
  | 1, _ => exact jw_742
  | 2, _ => exact jw_743
  | 3, _ => exact jw_744
  | 4, _ => exact jw_745
  | 5, _ => exact jw_746
  | n + 6, hk => exact absurd hk (by omega)
theorem jk_8 : jj_K 8 RX7 TX7 6 tyX7 := ⟨rfl, ju_8, tyX7_ok, nmX7⟩
theorem jd_8 : ∀ j, j < 6 → defaultValue (tyX7 j) = vp_V [.null, .null, .null, .int 0, .int 0, .int 0] j := by
  intro j hj
  match j, hj with
  | 0, _ => rfl
  | 1, _ => rfl
  | 2, _ => rfl
  | 3, _ => rfl
  | 4, _ => rfl
  | 5, _ => rfl
  | n + 6, hj => exact absurd hj (by omega)
theorem jw_747 : Cond.methodLink RX7 58 yX9_isWord ∈ jj_G := jj_t4 (List.mem_of_getElem? (i := 6) (by decide +kernel)) rfl
theorem jw_748 : Cond.instanceMethod yX7_operationOfWord ∈ jj_G := jj_t4 (List.mem_of_getElem? (i := 3) (by decide +kernel)) rfl
theorem jw_749 : Cond.selects RX7 yX7_operationOfWord yX7_operationOfWord ∈ jj_G := jj_pv (q := (yX7_operationOfWord, 6)) (by decide +kernel)
theorem jn_X7_operationOfWord : jj_N yX7_operationOfWord 0 := by unfold jj_N; decide +kernel
theorem jw_751 : Cond.fieldLink RX7 9 "SeriesFund$Script" "operation" "I" ∈ jj_G := jj_t3 (List.mem_of_getElem? (i := 220) (by decide +kernel)) rfl
theorem jw_752 : Cond.methodLink RX7 37 yX7_numbersOf ∈ jj_G := jj_t4 (List.mem_of_getElem? (i := 14) (by decide +kernel)) rfl
theorem jw_753 : Cond.code yX7_numbersOf cX7_numbersOf 1 (some .int) ∈ jj_G := jj_t4 (List.mem_of_getElem? (i := 16) (by decide +kernel)) rfl
theorem jw_754 : Cond.static yX7_numbersOf ∈ jj_G := jj_t4 (List.mem_of_getElem? (i := 15) (by decide +kernel)) rfl
theorem jn_X7_numbersOf : jj_N yX7_numbersOf 1 := by unfold jj_N; decide +kernel
theorem jw_756 : Cond.methodLink RX7 41 yX7_readNumber ∈ jj_G := jj_t4 (List.mem_of_getElem? (i := 17) (by decide +kernel)) rfl
theorem jw_757 : Cond.code yX7_readNumber cX7_readNumber 1 (some .boolean) ∈ jj_G := jj_t4 (List.mem_of_getElem? (i := 20) (by decide +kernel)) rfl
theorem jw_758 : Cond.methodLink RX7 50 yX9_advance ∈ jj_G := jj_t4 (List.mem_of_getElem? (i := 21) (by decide +kernel)) rfl
theorem jw_759 : Cond.fieldLink RX7 53 "SeriesFund$Tokens" "kind" "I" ∈ jj_G := jj_t1 (List.mem_of_getElem? (i := 49) (by decide +kernel)) rfl
theorem jw_760 : Cond.fieldLink RX7 45 "SeriesFund$Tokens" "value" "I" ∈ jj_G := jj_t1 (List.mem_of_getElem? (i := 53) (by decide +kernel)) rfl
theorem jw_761 : Cond.instanceMethod yX7_readNumber ∈ jj_G := jj_t4 (List.mem_of_getElem? (i := 19) (by decide +kernel)) rfl
theorem jw_762 : Cond.selects RX7 yX7_readNumber yX7_readNumber ∈ jj_G := jj_pv (q := (yX7_readNumber, 6)) (by decide +kernel)
theorem jn_X7_readNumber : jj_N yX7_readNumber 0 := by unfold jj_N; decide +kernel
theorem jw_764 : Cond.fieldLink RX7 15 "SeriesFund$Script" "first" "I" ∈ jj_G := jj_t3 (List.mem_of_getElem? (i := 221) (by decide +kernel)) rfl
theorem jw_765 : Cond.fieldLink RX7 18 "SeriesFund$Script" "second" "I" ∈ jj_G := jj_t3 (List.mem_of_getElem? (i := 222) (by decide +kernel)) rfl
theorem jw_770 : Cond.code yX7_execute cX7_execute 1 (some .boolean) ∈ jj_G := jj_t4 (List.mem_of_getElem? (i := 25) (by decide +kernel)) rfl
theorem jw_771 : Cond.methodLink RX7 76 yX7_fault ∈ jj_G := jj_t4 (List.mem_of_getElem? (i := 26) (by decide +kernel)) rfl
theorem jw_772 : Cond.code yX7_fault cX7_fault 1 (some .int) ∈ jj_G := jj_t4 (List.mem_of_getElem? (i := 29) (by decide +kernel)) rfl
theorem jw_773 : Cond.fieldLink RX7 25 "SeriesFund$Script" "book" "LSeriesFund$Book;" ∈ jj_G := jj_t3 (List.mem_of_getElem? (i := 218) (by decide +kernel)) rfl
theorem jw_774 : Cond.methodLink RX7 107 yX0_subscriptionFault ∈ jj_G := jj_t4 (List.mem_of_getElem? (i := 30) (by decide +kernel)) rfl
theorem jw_775 : Cond.methodLink RX7 111 yX0_redemptionFault ∈ jj_G := jj_t4 (List.mem_of_getElem? (i := 39) (by decide +kernel)) rfl
theorem jw_776 : Cond.methodLink RX7 114 yX2_earningFault ∈ jj_G := jj_t4 (List.mem_of_getElem? (i := 49) (by decide +kernel)) rfl
theorem jw_777 : Cond.methodLink RX7 118 yX2_passingFault ∈ jj_G := jj_t4 (List.mem_of_getElem? (i := 59) (by decide +kernel)) rfl
theorem jw_778 : Cond.instanceMethod yX7_fault ∈ jj_G := jj_t4 (List.mem_of_getElem? (i := 28) (by decide +kernel)) rfl
theorem jw_779 : Cond.selects RX7 yX7_fault yX7_fault ∈ jj_G := jj_pv (q := (yX7_fault, 6)) (by decide +kernel)
theorem jn_X7_fault : jj_N yX7_fault 0 := by unfold jj_N; decide +kernel
theorem jw_781 : Cond.methodLink RX7 79 yX0_addRequest ∈ jj_G := jj_t4 (List.mem_of_getElem? (i := 62) (by decide +kernel)) rfl
theorem jw_782 : Cond.fieldLink RX7 29 "SeriesFund$Script" "desk" "LSeriesFund$Desk;" ∈ jj_G := jj_t3 (List.mem_of_getElem? (i := 219) (by decide +kernel)) rfl
theorem jw_783 : Cond.methodLink RX7 85 yX1_holdDealing ∈ jj_G := jj_t4 (List.mem_of_getElem? (i := 63) (by decide +kernel)) rfl
theorem jw_784 : Cond.methodLink RX7 91 yX2_earnRate ∈ jj_G := jj_t4 (List.mem_of_getElem? (i := 64) (by decide +kernel)) rfl
theorem jw_785 : Cond.methodLink RX7 97 yX2_chargeDays ∈ jj_G := jj_t4 (List.mem_of_getElem? (i := 67) (by decide +kernel)) rfl
theorem jw_786 : Cond.methodLink RX7 100 yX2_settleAll ∈ jj_G := jj_t4 (List.mem_of_getElem? (i := 71) (by decide +kernel)) rfl
theorem jw_787 : Cond.methodLink RX7 104 yX2_mergeAll ∈ jj_G := jj_t4 (List.mem_of_getElem? (i := 72) (by decide +kernel)) rfl
theorem jw_791 : Cond.methodLink RX10 337 yX0_limitOfGate ∈ jj_G := jj_t4 (List.mem_of_getElem? (i := 87) (by decide +kernel)) rfl
theorem jw_792 : Cond.methodLink RX10 390 yX5_write ∈ jj_G := jj_t4 (List.mem_of_getElem? (i := 100) (by decide +kernel)) rfl
theorem jw_793 : Cond.code yX5_write cX5_write 3 none ∈ jj_G := jj_t4 (List.mem_of_getElem? (i := 103) (by decide +kernel)) rfl
theorem jw_794 : Cond.initialized RX5 ∈ jj_G := jj_t1 (List.mem_of_getElem? (i := 8) (by decide +kernel)) rfl
theorem jw_795 : Cond.fieldLink RX5 15 "SeriesFund$Report" "length" "I" ∈ jj_G := jj_t2 (List.mem_of_getElem? (i := 86) (by decide +kernel)) rfl
theorem jw_796 : Cond.methodLink RX5 24 yX5_putText ∈ jj_G := jj_t4 (List.mem_of_getElem? (i := 105) (by decide +kernel)) rfl
theorem jw_797 : Cond.code yX5_putText cX5_putText 3 none ∈ jj_G := jj_t4 (List.mem_of_getElem? (i := 108) (by decide +kernel)) rfl
theorem jw_798 : Cond.methodLink RX5 85 yJ0_length_8abf5 ∈ jj_G := jj_t4 (List.mem_of_getElem? (i := 109) (by decide +kernel)) rfl
theorem jw_799 : Cond.methodLink RX5 90 yJ0_charAt_5068e ∈ jj_G := jj_t4 (List.mem_of_getElem? (i := 110) (by decide +kernel)) rfl
theorem jw_800 : Cond.methodLink RX5 94 yX5_putByte ∈ jj_G := jj_t4 (List.mem_of_getElem? (i := 111) (by decide +kernel)) rfl
theorem jw_801 : Cond.code yX5_putByte cX5_putByte 2 none ∈ jj_G := jj_t4 (List.mem_of_getElem? (i := 114) (by decide +kernel)) rfl
theorem jw_802 : Cond.fieldLink RX5 9 "SeriesFund$Report" "bytes" "[B" ∈ jj_G := jj_t2 (List.mem_of_getElem? (i := 84) (by decide +kernel)) rfl
theorem jw_803 : Cond.instanceMethod yX5_putByte ∈ jj_G := jj_t4 (List.mem_of_getElem? (i := 113) (by decide +kernel)) rfl
theorem jw_804 : Cond.selects RX5 yX5_putByte yX5_putByte ∈ jj_G := jj_pv (q := (yX5_putByte, 3)) (by decide +kernel)
theorem jn_X5_putByte : jj_N yX5_putByte 1 := by unfold jj_N; decide +kernel
theorem jw_806 : Cond.instanceMethod yX5_putText ∈ jj_G := jj_t4 (List.mem_of_getElem? (i := 107) (by decide +kernel)) rfl
theorem jw_807 : Cond.selects RX5 yX5_putText yX5_putText ∈ jj_G := jj_pv (q := (yX5_putText, 3)) (by decide +kernel)
theorem jn_X5_putText : jj_N yX5_putText 1 := by unfold jj_N; decide +kernel
theorem jw_809 : Cond.fieldLink RX5 28 "SeriesFund$Book" "day" "I" ∈ jj_G := jj_t1 (List.mem_of_getElem? (i := 228) (by decide +kernel)) rfl
theorem jw_810 : Cond.methodLink RX5 33 yX5_putNumber ∈ jj_G := jj_t4 (List.mem_of_getElem? (i := 115) (by decide +kernel)) rfl
theorem jw_811 : Cond.code yX5_putNumber cX5_putNumber 7 none ∈ jj_G := jj_t4 (List.mem_of_getElem? (i := 118) (by decide +kernel)) rfl
theorem jw_812 : Cond.fieldLink RX5 19 "SeriesFund$Report" "digits" "[B" ∈ jj_G := jj_t2 (List.mem_of_getElem? (i := 88) (by decide +kernel)) rfl
theorem jw_813 : Cond.constantLong RX5 100 (48) ∈ jj_G := jj_t4 (List.mem_of_getElem? (i := 120) (by decide +kernel)) rfl
theorem jw_814 : Cond.constantLong RX5 102 (10) ∈ jj_G := jj_t4 (List.mem_of_getElem? (i := 121) (by decide +kernel)) rfl
theorem jw_815 : Cond.methodLink RX5 104 yJ9_abs_067f4 ∈ jj_G := jj_t4 (List.mem_of_getElem? (i := 122) (by decide +kernel)) rfl
theorem jw_816 : Cond.code yJ9_abs_067f4 cJ9_abs_067f4 2 (some .long) ∈ jj_G := jj_t4 (List.mem_of_getElem? (i := 124) (by decide +kernel)) rfl
theorem jw_817 : Cond.static yJ9_abs_067f4 ∈ jj_G := jj_t4 (List.mem_of_getElem? (i := 123) (by decide +kernel)) rfl
theorem jn_J9_abs_067f4 : jj_N yJ9_abs_067f4 1 := by unfold jj_N; decide +kernel
theorem jw_819 : Cond.instanceMethod yX5_putNumber ∈ jj_G := jj_t4 (List.mem_of_getElem? (i := 117) (by decide +kernel)) rfl
theorem jw_820 : Cond.selects RX5 yX5_putNumber yX5_putNumber ∈ jj_G := jj_pv (q := (yX5_putNumber, 3)) (by decide +kernel)
theorem jn_X5_putNumber : jj_N yX5_putNumber 1 := by unfold jj_N; decide +kernel
theorem jw_822 : Cond.methodLink RX5 39 yX0_netOfAll ∈ jj_G := jj_t4 (List.mem_of_getElem? (i := 126) (by decide +kernel)) rfl
theorem jw_823 : Cond.fieldLink RX5 45 "SeriesFund$Book" "seriesCount" "I" ∈ jj_G := jj_t1 (List.mem_of_getElem? (i := 234) (by decide +kernel)) rfl
theorem jw_824 : Cond.fieldLink RX5 48 "SeriesFund$Book" "series" "[LSeriesFund$Series;" ∈ jj_G := jj_t2 (List.mem_of_getElem? (i := 10) (by decide +kernel)) rfl
theorem jw_825 : Cond.methodLink RX5 52 yX5_writeSeries ∈ jj_G := jj_t4 (List.mem_of_getElem? (i := 128) (by decide +kernel)) rfl
theorem jw_826 : Cond.code yX5_writeSeries cX5_writeSeries 6 none ∈ jj_G := jj_t4 (List.mem_of_getElem? (i := 131) (by decide +kernel)) rfl
theorem jw_827 : Cond.fieldLink RX5 58 "SeriesFund$Series" "number" "I" ∈ jj_G := jj_t1 (List.mem_of_getElem? (i := 90) (by decide +kernel)) rfl
theorem jw_828 : Cond.fieldLink RX5 65 "SeriesFund$Book" "performanceFee" "I" ∈ jj_G := jj_t1 (List.mem_of_getElem? (i := 219) (by decide +kernel)) rfl
theorem jw_829 : Cond.methodLink RX5 68 yX8_netPrice ∈ jj_G := jj_t4 (List.mem_of_getElem? (i := 134) (by decide +kernel)) rfl
theorem jw_830 : Cond.fieldLink RX5 72 "SeriesFund$Series" "mark" "J" ∈ jj_G := jj_t1 (List.mem_of_getElem? (i := 108) (by decide +kernel)) rfl
theorem jw_831 : Cond.fieldLink RX5 76 "SeriesFund$Book" "investors" "I" ∈ jj_G := jj_t1 (List.mem_of_getElem? (i := 206) (by decide +kernel)) rfl
theorem jw_832 : Cond.methodLink RX5 79 yX0_unitsHeldIn ∈ jj_G := jj_t4 (List.mem_of_getElem? (i := 140) (by decide +kernel)) rfl
theorem jw_833 : Cond.instanceMethod yX5_writeSeries ∈ jj_G := jj_t4 (List.mem_of_getElem? (i := 130) (by decide +kernel)) rfl
theorem jw_834 : Cond.selects RX5 yX5_writeSeries yX5_writeSeries ∈ jj_G := jj_pv (q := (yX5_writeSeries, 3)) (by decide +kernel)
theorem jn_X5_writeSeries : jj_N yX5_writeSeries 2 := by unfold jj_N; decide +kernel
theorem jw_836 : Cond.instanceMethod yX5_write ∈ jj_G := jj_t4 (List.mem_of_getElem? (i := 101) (by decide +kernel)) rfl
theorem jw_837 : Cond.selects RX5 yX5_write yX5_write ∈ jj_G := jj_t4 (List.mem_of_getElem? (i := 102) (by decide +kernel)) rfl
theorem jn_X5_write : jj_N yX5_write 1 := by unfold jj_N; decide +kernel
theorem jw_839 : Cond.code yX10_account cX10_account 2 (some .long) ∈ jj_G := jj_t5 (List.mem_of_getElem? (i := 156) (by decide +kernel)) rfl
theorem jw_840 : Cond.code yX10_appendText cX10_appendText 6 (some .int) ∈ jj_G := jj_t4 (List.mem_of_getElem? (i := 156) (by decide +kernel)) rfl
theorem jw_841 : Cond.code yX10_bestGate cX10_bestGate 5 (some .int) ∈ jj_G := jj_t6 (List.mem_of_getElem? (i := 127) (by decide +kernel)) rfl
theorem jw_842 : Cond.code yX10_breakEven cX10_breakEven 7 (some .int) ∈ jj_G := jj_t6 (List.mem_of_getElem? (i := 68) (by decide +kernel)) rfl
theorem jw_843 : Cond.code yX10_count cX10_count 2 (some .int) ∈ jj_G := jj_t5 (List.mem_of_getElem? (i := 148) (by decide +kernel)) rfl
theorem jw_844 : Cond.code yX10_daysUntil cX10_daysUntil 4 (some .int) ∈ jj_G := jj_t6 (List.mem_of_getElem? (i := 119) (by decide +kernel)) rfl
theorem jw_845 : Cond.code yX10_dealsUntilDone cX10_dealsUntilDone 4 (some .int) ∈ jj_G := jj_t6 (List.mem_of_getElem? (i := 42) (by decide +kernel)) rfl
theorem jw_847 : Cond.code yX10_feesIf cX10_feesIf 5 (some .long) ∈ jj_G := jj_t6 (List.mem_of_getElem? (i := 59) (by decide +kernel)) rfl
theorem jw_848 : Cond.code yX10_holding cX10_holding 3 (some .long) ∈ jj_G := jj_t5 (List.mem_of_getElem? (i := 219) (by decide +kernel)) rfl
theorem jw_849 : Cond.code yX10_lot cX10_lot 4 (some .long) ∈ jj_G := jj_t5 (List.mem_of_getElem? (i := 192) (by decide +kernel)) rfl
theorem jw_850 : Cond.code yX10_openSeries cX10_openSeries 2 (some .int) ∈ jj_G := jj_t5 (List.mem_of_getElem? (i := 164) (by decide +kernel)) rfl
theorem jw_852 : Cond.code yX10_rateFor cX10_rateFor 5 (some .int) ∈ jj_G := jj_t6 (List.mem_of_getElem? (i := 96) (by decide +kernel)) rfl
theorem jw_854 : Cond.code yX10_reportByte cX10_reportByte 2 (some .int) ∈ jj_G := jj_t6 (List.mem_of_getElem? (i := 134) (by decide +kernel)) rfl
theorem jw_855 : Cond.code yX10_request cX10_request 4 (some .long) ∈ jj_G := jj_t5 (List.mem_of_getElem? (i := 200) (by decide +kernel)) rfl
theorem jw_856 : Cond.code yX10_richest cX10_richest 3 (some .int) ∈ jj_G := jj_t5 (List.mem_of_getElem? (i := 239) (by decide +kernel)) rfl
theorem jw_857 : Cond.code yX10_seriesValue cX10_seriesValue 4 (some .long) ∈ jj_G := jj_t5 (List.mem_of_getElem? (i := 172) (by decide +kernel)) rfl
theorem jw_862 : Cond.code yX10_truncateText cX10_truncateText 2 (some .int) ∈ jj_G := jj_t4 (List.mem_of_getElem? (i := 238) (by decide +kernel)) rfl
theorem jw_863 : Cond.code yX10_undo cX10_undo 1 (some .int) ∈ jj_G := jj_t6 (List.mem_of_getElem? (i := 142) (by decide +kernel)) rfl
theorem jw_864 : Cond.code yX10_unitsOf cX10_unitsOf 2 (some .long) ∈ jj_G := jj_t5 (List.mem_of_getElem? (i := 207) (by decide +kernel)) rfl
theorem jw_865 : Cond.code yX10_valueOf cX10_valueOf 2 (some .long) ∈ jj_G := jj_t5 (List.mem_of_getElem? (i := 227) (by decide +kernel)) rfl
theorem jw_867 : Cond.code yX10_wouldRedeem cX10_wouldRedeem 2 (some .long) ∈ jj_G := jj_t6 (List.mem_of_getElem? (i := 34) (by decide +kernel)) rfl
theorem jw_869 : Cond.code yX10_errorCode cX10_errorCode 1 (some .int) ∈ jj_G := jj_t3 (List.mem_of_getElem? (i := 162) (by decide +kernel)) rfl
theorem jw_870 : Cond.code yX10_errorPosition cX10_errorPosition 1 (some .int) ∈ jj_G := jj_t3 (List.mem_of_getElem? (i := 166) (by decide +kernel)) rfl
theorem jw_875 : Cond.code yX10_netAssets cX10_netAssets 1 (some .long) ∈ jj_G := jj_t4 (List.mem_of_getElem? (i := 76) (by decide +kernel)) rfl
theorem jw_876 : Cond.code yX10_requestedValue cX10_requestedValue 1 (some .long) ∈ jj_G := jj_t4 (List.mem_of_getElem? (i := 81) (by decide +kernel)) rfl
theorem jw_877 : Cond.code yX10_gateLimit cX10_gateLimit 1 (some .long) ∈ jj_G := jj_t4 (List.mem_of_getElem? (i := 86) (by decide +kernel)) rfl
theorem jw_878 : Cond.code yX10_wouldCrystallize cX10_wouldCrystallize 1 (some .long) ∈ jj_G := jj_t4 (List.mem_of_getElem? (i := 91) (by decide +kernel)) rfl
theorem jw_879 : Cond.code yX10_wouldMerge cX10_wouldMerge 1 (some .int) ∈ jj_G := jj_t4 (List.mem_of_getElem? (i := 95) (by decide +kernel)) rfl
theorem jw_880 : Cond.code yX10_writeReport cX10_writeReport 1 (some .int) ∈ jj_G := jj_t4 (List.mem_of_getElem? (i := 99) (by decide +kernel)) rfl
theorem jw_881 : Cond.code yX10_undoDepth cX10_undoDepth 1 (some .int) ∈ jj_G := jj_t4 (List.mem_of_getElem? (i := 148) (by decide +kernel)) rfl
