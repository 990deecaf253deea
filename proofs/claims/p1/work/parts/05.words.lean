theorem jw_0 : Cond.methodLink RX10 1 objectInit ∈ jj_G := jj_t1 (List.mem_of_getElem? (i := 32) (by decide +kernel)) rfl
theorem jw_1 : Cond.instanceMethod objectInit ∈ jj_G := jj_t1 (List.mem_of_getElem? (i := 33) (by decide +kernel)) rfl
theorem jw_2 : Cond.code objectInit ⟨#[0xb1]⟩ 1 none ∈ jj_G := jj_t1 (List.mem_of_getElem? (i := 34) (by decide +kernel)) rfl
theorem jw_4 : Cond.laysFinal RX9 "SeriesFund$Tokens" "text" "[C" ∈ jj_G := jj_t1 (List.mem_of_getElem? (i := 55) (by decide +kernel)) rfl
theorem jw_5 : Cond.lays RX9 "SeriesFund$Tokens" "held" "I" ∈ jj_G := jj_t1 (List.mem_of_getElem? (i := 57) (by decide +kernel)) rfl
theorem jw_6 : Cond.lays RX9 "SeriesFund$Tokens" "length" "I" ∈ jj_G := jj_t1 (List.mem_of_getElem? (i := 59) (by decide +kernel)) rfl
theorem jw_7 : Cond.lays RX9 "SeriesFund$Tokens" "end" "I" ∈ jj_G := jj_t1 (List.mem_of_getElem? (i := 61) (by decide +kernel)) rfl
theorem jw_8 : Cond.lays RX9 "SeriesFund$Tokens" "start" "I" ∈ jj_G := jj_t1 (List.mem_of_getElem? (i := 63) (by decide +kernel)) rfl
theorem jw_9 : Cond.lays RX9 "SeriesFund$Tokens" "kind" "I" ∈ jj_G := jj_t1 (List.mem_of_getElem? (i := 65) (by decide +kernel)) rfl
theorem jw_10 : Cond.lays RX9 "SeriesFund$Tokens" "value" "I" ∈ jj_G := jj_t1 (List.mem_of_getElem? (i := 67) (by decide +kernel)) rfl
theorem ju_10 : ∀ w ∈ u_ws RX9 TX9 7, w ∈ jj_G := by
  intro w hw
  obtain ⟨k, hk, rfl⟩ := List.mem_map.mp hw
  have hk := List.mem_range.mp hk
  match k, hk with
  | 0, _ => exact jw_4
  | 1, _ => exact jw_5
  | 2, _ => exact jw_6
  | 3, _ => exact jw_7
  | 4, _ => exact jw_8
  | 5, _ => exact jw_9
  | 6, _ => exact jw_10
  | n + 7, hk => exact absurd hk (by omega)
theorem jk_10 : jj_K 10 RX9 TX9 7 tyX9 := ⟨rfl, ju_10, tyX9_ok, nmX9⟩
theorem jd_10 : ∀ j, j < 7 → defaultValue (tyX9 j) = vp_V [.null, .int 0, .int 0, .int 0, .int 0, .int 0, .int 0] j := by
  intro j hj
  match j, hj with
  | 0, _ => rfl
  | 1, _ => rfl
  | 2, _ => rfl
  | 3, _ => rfl
  | 4, _ => rfl
  | 5, _ => rfl
  | 6, _ => rfl
  | n + 7, hj => exact absurd hj (by omega)
theorem jw_11 : Cond.classLink RX10 7 RX9 ∈ jj_G := jj_t1 (List.mem_of_getElem? (i := 35) (by decide +kernel)) rfl
theorem jw_12 : Cond.instantiable RX9 7 ∈ jj_G := jj_t1 (List.mem_of_getElem? (i := 36) (by decide +kernel)) rfl
theorem jw_13 : Cond.initialized RX9 ∈ jj_G := jj_t1 (List.mem_of_getElem? (i := 2) (by decide +kernel)) rfl
theorem jw_14 : Cond.methodLink RX9 3 objectInit ∈ jj_G := jj_t1 (List.mem_of_getElem? (i := 40) (by decide +kernel)) rfl
theorem jw_15 : Cond.arrayClass .char ∈ jj_G := jj_t1 (List.mem_of_getElem? (i := 70) (by decide +kernel)) rfl
theorem jw_16 : Cond.fieldLink RX9 9 "SeriesFund$Tokens" "text" "[C" ∈ jj_G := jj_t1 (List.mem_of_getElem? (i := 41) (by decide +kernel)) rfl
theorem jw_17 : Cond.fieldLink RX9 15 "SeriesFund$Tokens" "held" "I" ∈ jj_G := jj_t1 (List.mem_of_getElem? (i := 42) (by decide +kernel)) rfl
theorem jw_18 : Cond.fieldLink RX9 19 "SeriesFund$Tokens" "length" "I" ∈ jj_G := jj_t1 (List.mem_of_getElem? (i := 44) (by decide +kernel)) rfl
theorem jw_19 : Cond.fieldLink RX9 22 "SeriesFund$Tokens" "end" "I" ∈ jj_G := jj_t1 (List.mem_of_getElem? (i := 45) (by decide +kernel)) rfl
theorem jw_20 : Cond.fieldLink RX9 25 "SeriesFund$Tokens" "start" "I" ∈ jj_G := jj_t1 (List.mem_of_getElem? (i := 46) (by decide +kernel)) rfl
theorem jw_21 : Cond.fieldLink RX9 28 "SeriesFund$Tokens" "kind" "I" ∈ jj_G := jj_t1 (List.mem_of_getElem? (i := 48) (by decide +kernel)) rfl
theorem jw_22 : Cond.fieldLink RX9 31 "SeriesFund$Tokens" "value" "I" ∈ jj_G := jj_t1 (List.mem_of_getElem? (i := 52) (by decide +kernel)) rfl
theorem jw_23 : Cond.code yX9_init cX9_init 1 none ∈ jj_G := jj_t1 (List.mem_of_getElem? (i := 39) (by decide +kernel)) rfl
theorem jw_24 : Cond.instanceMethod yX9_init ∈ jj_G := jj_t1 (List.mem_of_getElem? (i := 38) (by decide +kernel)) rfl
theorem jn_X9_init : jj_N yX9_init 0 := by unfold jj_N; decide +kernel
theorem jw_26 : Cond.fieldLink RX10 10 "SeriesFund" "tokens" "LSeriesFund$Tokens;" ∈ jj_G := jj_t2 (List.mem_of_getElem? (i := 97) (by decide +kernel)) rfl
theorem jw_28 : Cond.laysFinal RX10 "SeriesFund" "tokens" "LSeriesFund$Tokens;" ∈ jj_G := jj_t2 (List.mem_of_getElem? (i := 107) (by decide +kernel)) rfl
theorem jw_29 : Cond.lays RX10 "SeriesFund" "parseCode" "I" ∈ jj_G := jj_t2 (List.mem_of_getElem? (i := 109) (by decide +kernel)) rfl
theorem jw_30 : Cond.lays RX10 "SeriesFund" "parsePosition" "I" ∈ jj_G := jj_t2 (List.mem_of_getElem? (i := 111) (by decide +kernel)) rfl
theorem jw_31 : Cond.laysFinal RX10 "SeriesFund" "book" "LSeriesFund$Book;" ∈ jj_G := jj_t2 (List.mem_of_getElem? (i := 113) (by decide +kernel)) rfl
theorem jw_32 : Cond.laysFinal RX10 "SeriesFund" "thought" "LSeriesFund$Book;" ∈ jj_G := jj_t2 (List.mem_of_getElem? (i := 115) (by decide +kernel)) rfl
theorem jw_33 : Cond.laysFinal RX10 "SeriesFund" "desk" "LSeriesFund$Desk;" ∈ jj_G := jj_t2 (List.mem_of_getElem? (i := 117) (by decide +kernel)) rfl
theorem jw_34 : Cond.laysFinal RX10 "SeriesFund" "past" "[LSeriesFund$Book;" ∈ jj_G := jj_t2 (List.mem_of_getElem? (i := 119) (by decide +kernel)) rfl
theorem jw_35 : Cond.lays RX10 "SeriesFund" "newest" "I" ∈ jj_G := jj_t2 (List.mem_of_getElem? (i := 121) (by decide +kernel)) rfl
theorem jw_36 : Cond.lays RX10 "SeriesFund" "remembered" "I" ∈ jj_G := jj_t2 (List.mem_of_getElem? (i := 123) (by decide +kernel)) rfl
theorem jw_37 : Cond.laysFinal RX10 "SeriesFund" "report" "LSeriesFund$Report;" ∈ jj_G := jj_t2 (List.mem_of_getElem? (i := 125) (by decide +kernel)) rfl
theorem ju_11 : ∀ w ∈ u_ws RX10 TX10 10, w ∈ jj_G := by
  intro w hw
  obtain ⟨k, hk, rfl⟩ := List.mem_map.mp hw
  have hk := List.mem_range.mp hk
  match k, hk with
  | 0, _ => exact jw_28
  | 1, _ => exact jw_29
  | 2, _ => exact jw_30
  | 3, _ => exact jw_31
  | 4, _ => exact jw_32
  | 5, _ => exact jw_33
  | 6, _ => exact jw_34
  | 7, _ => exact jw_35
  | 8, _ => exact jw_36
  | 9, _ => exact jw_37
  | n + 10, hk => exact absurd hk (by omega)
theorem jk_11 : jj_K 11 RX10 TX10 10 tyX10 := ⟨rfl, ju_11, tyX10_ok, nmX10⟩
theorem jd_11 : ∀ j, j < 10 → defaultValue (tyX10 j) = vp_V [.null, .int 0, .int 0, .null, .null, .null, .null, .int 0, .int 0, .null] j := by
  intro j hj
  match j, hj with
  | 0, _ => rfl
  | 1, _ => rfl
  | 2, _ => rfl
  | 3, _ => rfl
  | 4, _ => rfl
  | 5, _ => rfl
  | 6, _ => rfl
  | 7, _ => rfl
  | 8, _ => rfl
  | 9, _ => rfl
  | n + 10, hj => exact absurd hj (by omega)
theorem jw_38 : Cond.fieldLink RX10 16 "SeriesFund" "parseCode" "I" ∈ jj_G := jj_t2 (List.mem_of_getElem? (i := 98) (by decide +kernel)) rfl
theorem jw_39 : Cond.fieldLink RX10 20 "SeriesFund" "parsePosition" "I" ∈ jj_G := jj_t2 (List.mem_of_getElem? (i := 99) (by decide +kernel)) rfl
theorem jw_41 : Cond.lays RX0 "SeriesFund$Book" "investors" "I" ∈ jj_G := jj_t2 (List.mem_of_getElem? (i := 21) (by decide +kernel)) rfl
theorem jw_42 : Cond.lays RX0 "SeriesFund$Book" "method" "I" ∈ jj_G := jj_t2 (List.mem_of_getElem? (i := 23) (by decide +kernel)) rfl
theorem jw_43 : Cond.lays RX0 "SeriesFund$Book" "managementRate" "I" ∈ jj_G := jj_t2 (List.mem_of_getElem? (i := 25) (by decide +kernel)) rfl
theorem jw_44 : Cond.lays RX0 "SeriesFund$Book" "performanceFee" "I" ∈ jj_G := jj_t2 (List.mem_of_getElem? (i := 27) (by decide +kernel)) rfl
theorem jw_45 : Cond.lays RX0 "SeriesFund$Book" "gate" "I" ∈ jj_G := jj_t2 (List.mem_of_getElem? (i := 29) (by decide +kernel)) rfl
theorem jw_46 : Cond.lays RX0 "SeriesFund$Book" "day" "I" ∈ jj_G := jj_t2 (List.mem_of_getElem? (i := 31) (by decide +kernel)) rfl
theorem jw_47 : Cond.lays RX0 "SeriesFund$Book" "opened" "I" ∈ jj_G := jj_t2 (List.mem_of_getElem? (i := 33) (by decide +kernel)) rfl
theorem jw_48 : Cond.lays RX0 "SeriesFund$Book" "seriesCount" "I" ∈ jj_G := jj_t2 (List.mem_of_getElem? (i := 35) (by decide +kernel)) rfl
theorem jw_49 : Cond.lays RX0 "SeriesFund$Book" "lotCount" "I" ∈ jj_G := jj_t2 (List.mem_of_getElem? (i := 37) (by decide +kernel)) rfl
theorem jw_50 : Cond.lays RX0 "SeriesFund$Book" "requestCount" "I" ∈ jj_G := jj_t2 (List.mem_of_getElem? (i := 39) (by decide +kernel)) rfl
theorem jw_51 : Cond.laysFinal RX0 "SeriesFund$Book" "accounts" "[J" ∈ jj_G := jj_t2 (List.mem_of_getElem? (i := 41) (by decide +kernel)) rfl
theorem jw_52 : Cond.laysFinal RX0 "SeriesFund$Book" "series" "[LSeriesFund$Series;" ∈ jj_G := jj_t2 (List.mem_of_getElem? (i := 43) (by decide +kernel)) rfl
theorem jw_53 : Cond.laysFinal RX0 "SeriesFund$Book" "lots" "[LSeriesFund$Lot;" ∈ jj_G := jj_t2 (List.mem_of_getElem? (i := 45) (by decide +kernel)) rfl
theorem jw_54 : Cond.laysFinal RX0 "SeriesFund$Book" "requests" "[LSeriesFund$Request;" ∈ jj_G := jj_t2 (List.mem_of_getElem? (i := 47) (by decide +kernel)) rfl
theorem ju_2 : ∀ w ∈ u_ws RX0 TX0 14, w ∈ jj_G := by
  intro w hw
  obtain ⟨k, hk, rfl⟩ := List.mem_map.mp hw
  have hk := List.mem_range.mp hk
  match k, hk with
  | 0, _ => exact jw_41
  | 1, _ => exact jw_42
  | 2, _ => exact jw_43
  | 3, _ => exact jw_44
  | 4, _ => exact jw_45
  | 5, _ => exact jw_46
  | 6, _ => exact jw_47
  | 7, _ => exact jw_48
  | 8, _ => exact jw_49
  | 9, _ => exact jw_50
  | 10, _ => exact jw_51
  | 11, _ => exact jw_52
  | 12, _ => exact jw_53
  | 13, _ => exact jw_54
  | n + 14, hk => exact absurd hk (by omega)
theorem jk_2 : jj_K 2 RX0 TX0 14 tyX0 := ⟨rfl, ju_2, tyX0_ok, nmX0⟩
theorem jd_2 : ∀ j, j < 14 → defaultValue (tyX0 j) = vp_V [.int 0, .int 0, .int 0, .int 0, .int 0, .int 0, .int 0, .int 0, .int 0, .int 0, .null, .null, .null, .null] j := by
  intro j hj
  match j, hj with
  | 0, _ => rfl
  | 1, _ => rfl
  | 2, _ => rfl
  | 3, _ => rfl
  | 4, _ => rfl
  | 5, _ => rfl
  | 6, _ => rfl
  | 7, _ => rfl
  | 8, _ => rfl
  | 9, _ => rfl
  | 10, _ => rfl
  | 11, _ => rfl
  | 12, _ => rfl
  | 13, _ => rfl
  | n + 14, hj => exact absurd hj (by omega)
theorem jw_55 : Cond.classLink RX10 23 RX0 ∈ jj_G := jj_t1 (List.mem_of_getElem? (i := 71) (by decide +kernel)) rfl
theorem jw_56 : Cond.instantiable RX0 14 ∈ jj_G := jj_t1 (List.mem_of_getElem? (i := 72) (by decide +kernel)) rfl
theorem jw_57 : Cond.initialized RX0 ∈ jj_G := jj_t1 (List.mem_of_getElem? (i := 3) (by decide +kernel)) rfl
theorem jw_58 : Cond.methodLink RX0 3 objectInit ∈ jj_G := jj_t1 (List.mem_of_getElem? (i := 76) (by decide +kernel)) rfl
theorem jw_59 : Cond.fieldLink RX0 9 "SeriesFund$Book" "investors" "I" ∈ jj_G := jj_t1 (List.mem_of_getElem? (i := 205) (by decide +kernel)) rfl
theorem jw_60 : Cond.fieldLink RX0 15 "SeriesFund$Book" "method" "I" ∈ jj_G := jj_t1 (List.mem_of_getElem? (i := 209) (by decide +kernel)) rfl
theorem jw_61 : Cond.fieldLink RX0 18 "SeriesFund$Book" "managementRate" "I" ∈ jj_G := jj_t1 (List.mem_of_getElem? (i := 214) (by decide +kernel)) rfl
theorem jw_62 : Cond.fieldLink RX0 21 "SeriesFund$Book" "performanceFee" "I" ∈ jj_G := jj_t1 (List.mem_of_getElem? (i := 218) (by decide +kernel)) rfl
theorem jw_63 : Cond.fieldLink RX0 24 "SeriesFund$Book" "gate" "I" ∈ jj_G := jj_t1 (List.mem_of_getElem? (i := 224) (by decide +kernel)) rfl
theorem jw_64 : Cond.fieldLink RX0 27 "SeriesFund$Book" "day" "I" ∈ jj_G := jj_t1 (List.mem_of_getElem? (i := 227) (by decide +kernel)) rfl
theorem jw_65 : Cond.fieldLink RX0 30 "SeriesFund$Book" "opened" "I" ∈ jj_G := jj_t1 (List.mem_of_getElem? (i := 231) (by decide +kernel)) rfl
theorem jw_66 : Cond.fieldLink RX0 33 "SeriesFund$Book" "seriesCount" "I" ∈ jj_G := jj_t1 (List.mem_of_getElem? (i := 233) (by decide +kernel)) rfl
theorem jw_67 : Cond.fieldLink RX0 36 "SeriesFund$Book" "lotCount" "I" ∈ jj_G := jj_t1 (List.mem_of_getElem? (i := 238) (by decide +kernel)) rfl
theorem jw_68 : Cond.fieldLink RX0 39 "SeriesFund$Book" "requestCount" "I" ∈ jj_G := jj_t2 (List.mem_of_getElem? (i := 2) (by decide +kernel)) rfl
theorem jw_69 : Cond.arrayClass .long ∈ jj_G := jj_t1 (List.mem_of_getElem? (i := 124) (by decide +kernel)) rfl
theorem jw_70 : Cond.fieldLink RX0 42 "SeriesFund$Book" "accounts" "[J" ∈ jj_G := jj_t2 (List.mem_of_getElem? (i := 5) (by decide +kernel)) rfl
theorem jw_71 : Cond.classLink RX0 46 RX8 ∈ jj_G := jj_t1 (List.mem_of_getElem? (i := 77) (by decide +kernel)) rfl
theorem jw_72 : Cond.fieldLink RX0 48 "SeriesFund$Book" "series" "[LSeriesFund$Series;" ∈ jj_G := jj_t2 (List.mem_of_getElem? (i := 9) (by decide +kernel)) rfl
theorem jw_73 : Cond.classLink RX0 52 RX4 ∈ jj_G := jj_t1 (List.mem_of_getElem? (i := 79) (by decide +kernel)) rfl
theorem jw_74 : Cond.fieldLink RX0 54 "SeriesFund$Book" "lots" "[LSeriesFund$Lot;" ∈ jj_G := jj_t2 (List.mem_of_getElem? (i := 14) (by decide +kernel)) rfl
theorem jw_75 : Cond.classLink RX0 58 RX6 ∈ jj_G := jj_t1 (List.mem_of_getElem? (i := 81) (by decide +kernel)) rfl
theorem jw_76 : Cond.fieldLink RX0 60 "SeriesFund$Book" "requests" "[LSeriesFund$Request;" ∈ jj_G := jj_t2 (List.mem_of_getElem? (i := 18) (by decide +kernel)) rfl
theorem jw_78 : Cond.lays RX6 "SeriesFund$Request" "investor" "I" ∈ jj_G := jj_t1 (List.mem_of_getElem? (i := 194) (by decide +kernel)) rfl
theorem jw_79 : Cond.lays RX6 "SeriesFund$Request" "day" "I" ∈ jj_G := jj_t1 (List.mem_of_getElem? (i := 196) (by decide +kernel)) rfl
theorem jw_80 : Cond.lays RX6 "SeriesFund$Request" "redemption" "Z" ∈ jj_G := jj_t1 (List.mem_of_getElem? (i := 198) (by decide +kernel)) rfl
theorem jw_81 : Cond.lays RX6 "SeriesFund$Request" "quantity" "J" ∈ jj_G := jj_t1 (List.mem_of_getElem? (i := 200) (by decide +kernel)) rfl
theorem jw_82 : Cond.lays RX6 "SeriesFund$Request" "redeemed" "J" ∈ jj_G := jj_t1 (List.mem_of_getElem? (i := 202) (by decide +kernel)) rfl
theorem ju_7 : ∀ w ∈ u_ws RX6 TX6 5, w ∈ jj_G := by
  intro w hw
  obtain ⟨k, hk, rfl⟩ := List.mem_map.mp hw
  have hk := List.mem_range.mp hk
  match k, hk with
  | 0, _ => exact jw_78
  | 1, _ => exact jw_79
  | 2, _ => exact jw_80
  | 3, _ => exact jw_81
  | 4, _ => exact jw_82
  | n + 5, hk => exact absurd hk (by omega)
theorem jk_7 : jj_K 7 RX6 TX6 5 tyX6 := ⟨rfl, ju_7, tyX6_ok, nmX6⟩
theorem jd_7 : ∀ j, j < 5 → defaultValue (tyX6 j) = vp_V [.int 0, .int 0, .int 0, .long 0, .long 0] j := by
  intro j hj
  match j, hj with
  | 0, _ => rfl
  | 1, _ => rfl
  | 2, _ => rfl
  | 3, _ => rfl
  | 4, _ => rfl
  | n + 5, hj => exact absurd hj (by omega)
theorem jw_83 : Cond.instantiable RX6 5 ∈ jj_G := jj_t1 (List.mem_of_getElem? (i := 170) (by decide +kernel)) rfl
theorem jw_84 : Cond.initialized RX6 ∈ jj_G := jj_t1 (List.mem_of_getElem? (i := 6) (by decide +kernel)) rfl
theorem jw_85 : Cond.methodLink RX6 1 objectInit ∈ jj_G := jj_t1 (List.mem_of_getElem? (i := 174) (by decide +kernel)) rfl
theorem jw_86 : Cond.fieldLink RX6 7 "SeriesFund$Request" "investor" "I" ∈ jj_G := jj_t1 (List.mem_of_getElem? (i := 175) (by decide +kernel)) rfl
theorem jw_87 : Cond.fieldLink RX6 13 "SeriesFund$Request" "day" "I" ∈ jj_G := jj_t1 (List.mem_of_getElem? (i := 179) (by decide +kernel)) rfl
theorem jw_88 : Cond.fieldLink RX6 16 "SeriesFund$Request" "redemption" "Z" ∈ jj_G := jj_t1 (List.mem_of_getElem? (i := 182) (by decide +kernel)) rfl
theorem jw_89 : Cond.fieldLink RX6 20 "SeriesFund$Request" "quantity" "J" ∈ jj_G := jj_t1 (List.mem_of_getElem? (i := 186) (by decide +kernel)) rfl
theorem jw_90 : Cond.fieldLink RX6 24 "SeriesFund$Request" "redeemed" "J" ∈ jj_G := jj_t1 (List.mem_of_getElem? (i := 190) (by decide +kernel)) rfl
theorem jw_91 : Cond.code yX6_init cX6_init 1 none ∈ jj_G := jj_t1 (List.mem_of_getElem? (i := 173) (by decide +kernel)) rfl
theorem jw_92 : Cond.instanceMethod yX6_init ∈ jj_G := jj_t1 (List.mem_of_getElem? (i := 172) (by decide +kernel)) rfl
theorem jn_X6_init : jj_N yX6_init 0 := by unfold jj_N; decide +kernel
theorem jw_95 : Cond.lays RX4 "SeriesFund$Lot" "investor" "I" ∈ jj_G := jj_t1 (List.mem_of_getElem? (i := 157) (by decide +kernel)) rfl
theorem jw_96 : Cond.lays RX4 "SeriesFund$Lot" "series" "I" ∈ jj_G := jj_t1 (List.mem_of_getElem? (i := 159) (by decide +kernel)) rfl
theorem jw_97 : Cond.lays RX4 "SeriesFund$Lot" "day" "I" ∈ jj_G := jj_t1 (List.mem_of_getElem? (i := 161) (by decide +kernel)) rfl
theorem jw_98 : Cond.lays RX4 "SeriesFund$Lot" "units" "J" ∈ jj_G := jj_t1 (List.mem_of_getElem? (i := 163) (by decide +kernel)) rfl
theorem jw_99 : Cond.lays RX4 "SeriesFund$Lot" "entryPrice" "J" ∈ jj_G := jj_t1 (List.mem_of_getElem? (i := 165) (by decide +kernel)) rfl
theorem jw_100 : Cond.lays RX4 "SeriesFund$Lot" "credit" "J" ∈ jj_G := jj_t1 (List.mem_of_getElem? (i := 167) (by decide +kernel)) rfl
theorem ju_5 : ∀ w ∈ u_ws RX4 TX4 6, w ∈ jj_G := by
  intro w hw
  obtain ⟨k, hk, rfl⟩ := List.mem_map.mp hw
  have hk := List.mem_range.mp hk
  match k, hk with
  | 0, _ => exact jw_95
  | 1, _ => exact jw_96
  | 2, _ => exact jw_97
  | 3, _ => exact jw_98
  | 4, _ => exact jw_99
  | 5, _ => exact jw_100
  | n + 6, hk => exact absurd hk (by omega)
theorem jk_5 : jj_K 5 RX4 TX4 6 tyX4 := ⟨rfl, ju_5, tyX4_ok, nmX4⟩
theorem jd_5 : ∀ j, j < 6 → defaultValue (tyX4 j) = vp_V [.int 0, .int 0, .int 0, .long 0, .long 0, .long 0] j := by
  intro j hj
  match j, hj with
  | 0, _ => rfl
  | 1, _ => rfl
  | 2, _ => rfl
  | 3, _ => rfl
  | 4, _ => rfl
  | 5, _ => rfl
  | n + 6, hj => exact absurd hj (by omega)
theorem jw_101 : Cond.instantiable RX4 6 ∈ jj_G := jj_t1 (List.mem_of_getElem? (i := 125) (by decide +kernel)) rfl
theorem jw_102 : Cond.initialized RX4 ∈ jj_G := jj_t1 (List.mem_of_getElem? (i := 5) (by decide +kernel)) rfl
theorem jw_103 : Cond.methodLink RX4 1 objectInit ∈ jj_G := jj_t1 (List.mem_of_getElem? (i := 129) (by decide +kernel)) rfl
theorem jw_104 : Cond.fieldLink RX4 7 "SeriesFund$Lot" "investor" "I" ∈ jj_G := jj_t1 (List.mem_of_getElem? (i := 130) (by decide +kernel)) rfl
theorem jw_105 : Cond.fieldLink RX4 13 "SeriesFund$Lot" "series" "I" ∈ jj_G := jj_t1 (List.mem_of_getElem? (i := 134) (by decide +kernel)) rfl
theorem jw_106 : Cond.fieldLink RX4 16 "SeriesFund$Lot" "day" "I" ∈ jj_G := jj_t1 (List.mem_of_getElem? (i := 139) (by decide +kernel)) rfl
theorem jw_107 : Cond.fieldLink RX4 19 "SeriesFund$Lot" "units" "J" ∈ jj_G := jj_t1 (List.mem_of_getElem? (i := 142) (by decide +kernel)) rfl
theorem jw_108 : Cond.fieldLink RX4 23 "SeriesFund$Lot" "entryPrice" "J" ∈ jj_G := jj_t1 (List.mem_of_getElem? (i := 147) (by decide +kernel)) rfl
theorem jw_109 : Cond.fieldLink RX4 26 "SeriesFund$Lot" "credit" "J" ∈ jj_G := jj_t1 (List.mem_of_getElem? (i := 152) (by decide +kernel)) rfl
theorem jw_110 : Cond.code yX4_init cX4_init 1 none ∈ jj_G := jj_t1 (List.mem_of_getElem? (i := 128) (by decide +kernel)) rfl
theorem jw_111 : Cond.instanceMethod yX4_init ∈ jj_G := jj_t1 (List.mem_of_getElem? (i := 127) (by decide +kernel)) rfl
theorem jn_X4_init : jj_N yX4_init 0 := by unfold jj_N; decide +kernel
theorem jw_114 : Cond.lays RX8 "SeriesFund$Series" "number" "I" ∈ jj_G := jj_t1 (List.mem_of_getElem? (i := 113) (by decide +kernel)) rfl
theorem jw_115 : Cond.lays RX8 "SeriesFund$Series" "startDay" "I" ∈ jj_G := jj_t1 (List.mem_of_getElem? (i := 115) (by decide +kernel)) rfl
theorem jw_116 : Cond.lays RX8 "SeriesFund$Series" "assets" "J" ∈ jj_G := jj_t1 (List.mem_of_getElem? (i := 117) (by decide +kernel)) rfl
theorem jw_117 : Cond.lays RX8 "SeriesFund$Series" "units" "J" ∈ jj_G := jj_t1 (List.mem_of_getElem? (i := 119) (by decide +kernel)) rfl
theorem jw_118 : Cond.lays RX8 "SeriesFund$Series" "mark" "J" ∈ jj_G := jj_t1 (List.mem_of_getElem? (i := 121) (by decide +kernel)) rfl
theorem ju_9 : ∀ w ∈ u_ws RX8 TX8 5, w ∈ jj_G := by
  intro w hw
  obtain ⟨k, hk, rfl⟩ := List.mem_map.mp hw
  have hk := List.mem_range.mp hk
  match k, hk with
  | 0, _ => exact jw_114
  | 1, _ => exact jw_115
  | 2, _ => exact jw_116
  | 3, _ => exact jw_117
  | 4, _ => exact jw_118
  | n + 5, hk => exact absurd hk (by omega)
theorem jk_9 : jj_K 9 RX8 TX8 5 tyX8 := ⟨rfl, ju_9, tyX8_ok, nmX8⟩
theorem jd_9 : ∀ j, j < 5 → defaultValue (tyX8 j) = vp_V [.int 0, .int 0, .long 0, .long 0, .long 0] j := by
  intro j hj
  match j, hj with
  | 0, _ => rfl
  | 1, _ => rfl
  | 2, _ => rfl
  | 3, _ => rfl
  | 4, _ => rfl
  | n + 5, hj => exact absurd hj (by omega)
theorem jw_119 : Cond.instantiable RX8 5 ∈ jj_G := jj_t1 (List.mem_of_getElem? (i := 83) (by decide +kernel)) rfl
theorem jw_120 : Cond.initialized RX8 ∈ jj_G := jj_t1 (List.mem_of_getElem? (i := 4) (by decide +kernel)) rfl
theorem jw_121 : Cond.methodLink RX8 3 objectInit ∈ jj_G := jj_t1 (List.mem_of_getElem? (i := 87) (by decide +kernel)) rfl
theorem jw_122 : Cond.fieldLink RX8 9 "SeriesFund$Series" "number" "I" ∈ jj_G := jj_t1 (List.mem_of_getElem? (i := 89) (by decide +kernel)) rfl
theorem jw_123 : Cond.fieldLink RX8 15 "SeriesFund$Series" "startDay" "I" ∈ jj_G := jj_t1 (List.mem_of_getElem? (i := 95) (by decide +kernel)) rfl
theorem jw_124 : Cond.fieldLink RX8 18 "SeriesFund$Series" "assets" "J" ∈ jj_G := jj_t1 (List.mem_of_getElem? (i := 97) (by decide +kernel)) rfl
theorem jw_125 : Cond.fieldLink RX8 22 "SeriesFund$Series" "units" "J" ∈ jj_G := jj_t1 (List.mem_of_getElem? (i := 102) (by decide +kernel)) rfl
theorem jw_126 : Cond.constantLong RX8 25 (1000000) ∈ jj_G := jj_t1 (List.mem_of_getElem? (i := 88) (by decide +kernel)) rfl
theorem jw_127 : Cond.fieldLink RX8 27 "SeriesFund$Series" "mark" "J" ∈ jj_G := jj_t1 (List.mem_of_getElem? (i := 107) (by decide +kernel)) rfl
theorem jw_128 : Cond.code yX8_init cX8_init 1 none ∈ jj_G := jj_t1 (List.mem_of_getElem? (i := 86) (by decide +kernel)) rfl
theorem jw_129 : Cond.instanceMethod yX8_init ∈ jj_G := jj_t1 (List.mem_of_getElem? (i := 85) (by decide +kernel)) rfl
theorem jn_X8_init : jj_N yX8_init 0 := by unfold jj_N; decide +kernel
theorem jw_131 : Cond.code yX0_init cX0_init 2 none ∈ jj_G := jj_t1 (List.mem_of_getElem? (i := 75) (by decide +kernel)) rfl
theorem jw_132 : Cond.methodLink RX10 25 yX0_init ∈ jj_G := jj_t1 (List.mem_of_getElem? (i := 73) (by decide +kernel)) rfl
theorem jw_133 : Cond.instanceMethod yX0_init ∈ jj_G := jj_t1 (List.mem_of_getElem? (i := 74) (by decide +kernel)) rfl
theorem jn_X0_init : jj_N yX0_init 0 := by unfold jj_N; decide +kernel
theorem jw_135 : Cond.fieldLink RX10 26 "SeriesFund" "book" "LSeriesFund$Book;" ∈ jj_G := jj_t2 (List.mem_of_getElem? (i := 100) (by decide +kernel)) rfl
theorem jw_136 : Cond.fieldLink RX10 30 "SeriesFund" "thought" "LSeriesFund$Book;" ∈ jj_G := jj_t2 (List.mem_of_getElem? (i := 101) (by decide +kernel)) rfl
theorem jw_138 : Cond.laysFinal RX1 "SeriesFund$Desk" "trial" "[LSeriesFund$Series;" ∈ jj_G := jj_t2 (List.mem_of_getElem? (i := 64) (by decide +kernel)) rfl
theorem jw_139 : Cond.lays RX1 "SeriesFund$Desk" "base" "J" ∈ jj_G := jj_t2 (List.mem_of_getElem? (i := 66) (by decide +kernel)) rfl
theorem jw_140 : Cond.lays RX1 "SeriesFund$Desk" "part" "J" ∈ jj_G := jj_t2 (List.mem_of_getElem? (i := 68) (by decide +kernel)) rfl
theorem jw_141 : Cond.lays RX1 "SeriesFund$Desk" "usedCredit" "J" ∈ jj_G := jj_t2 (List.mem_of_getElem? (i := 70) (by decide +kernel)) rfl
theorem jw_142 : Cond.lays RX1 "SeriesFund$Desk" "back" "J" ∈ jj_G := jj_t2 (List.mem_of_getElem? (i := 72) (by decide +kernel)) rfl
theorem jw_143 : Cond.lays RX1 "SeriesFund$Desk" "due" "J" ∈ jj_G := jj_t2 (List.mem_of_getElem? (i := 74) (by decide +kernel)) rfl
theorem ju_3 : ∀ w ∈ u_ws RX1 TX1 6, w ∈ jj_G := by
  intro w hw
  obtain ⟨k, hk, rfl⟩ := List.mem_map.mp hw
  have hk := List.mem_range.mp hk
  match k, hk with
  | 0, _ => exact jw_138
  | 1, _ => exact jw_139
  | 2, _ => exact jw_140
  | 3, _ => exact jw_141
  | 4, _ => exact jw_142
  | 5, _ => exact jw_143
  | n + 6, hk => exact absurd hk (by omega)
theorem jk_3 : jj_K 3 RX1 TX1 6 tyX1 := ⟨rfl, ju_3, tyX1_ok, nmX1⟩
theorem jd_3 : ∀ j, j < 6 → defaultValue (tyX1 j) = vp_V [.null, .long 0, .long 0, .long 0, .long 0, .long 0] j := by
  intro j hj
  match j, hj with
  | 0, _ => rfl
  | 1, _ => rfl
  | 2, _ => rfl
  | 3, _ => rfl
  | 4, _ => rfl
  | 5, _ => rfl
  | n + 6, hj => exact absurd hj (by omega)
theorem jw_144 : Cond.classLink RX10 33 RX1 ∈ jj_G := jj_t2 (List.mem_of_getElem? (i := 50) (by decide +kernel)) rfl
theorem jw_145 : Cond.instantiable RX1 6 ∈ jj_G := jj_t2 (List.mem_of_getElem? (i := 51) (by decide +kernel)) rfl
theorem jw_146 : Cond.initialized RX1 ∈ jj_G := jj_t1 (List.mem_of_getElem? (i := 7) (by decide +kernel)) rfl
theorem jw_147 : Cond.methodLink RX1 3 objectInit ∈ jj_G := jj_t2 (List.mem_of_getElem? (i := 55) (by decide +kernel)) rfl
theorem jw_148 : Cond.classLink RX1 9 RX8 ∈ jj_G := jj_t2 (List.mem_of_getElem? (i := 56) (by decide +kernel)) rfl
theorem jw_149 : Cond.fieldLink RX1 11 "SeriesFund$Desk" "trial" "[LSeriesFund$Series;" ∈ jj_G := jj_t2 (List.mem_of_getElem? (i := 58) (by decide +kernel)) rfl
theorem jw_150 : Cond.fieldLink RX1 17 "SeriesFund$Desk" "base" "J" ∈ jj_G := jj_t2 (List.mem_of_getElem? (i := 59) (by decide +kernel)) rfl
theorem jw_151 : Cond.fieldLink RX1 21 "SeriesFund$Desk" "part" "J" ∈ jj_G := jj_t2 (List.mem_of_getElem? (i := 60) (by decide +kernel)) rfl
theorem jw_152 : Cond.fieldLink RX1 24 "SeriesFund$Desk" "usedCredit" "J" ∈ jj_G := jj_t2 (List.mem_of_getElem? (i := 61) (by decide +kernel)) rfl
theorem jw_153 : Cond.fieldLink RX1 27 "SeriesFund$Desk" "back" "J" ∈ jj_G := jj_t2 (List.mem_of_getElem? (i := 62) (by decide +kernel)) rfl
theorem jw_154 : Cond.fieldLink RX1 30 "SeriesFund$Desk" "due" "J" ∈ jj_G := jj_t2 (List.mem_of_getElem? (i := 63) (by decide +kernel)) rfl
theorem jw_155 : Cond.code yX1_init cX1_init 2 none ∈ jj_G := jj_t2 (List.mem_of_getElem? (i := 54) (by decide +kernel)) rfl
theorem jw_156 : Cond.methodLink RX10 35 yX1_init ∈ jj_G := jj_t2 (List.mem_of_getElem? (i := 52) (by decide +kernel)) rfl
theorem jw_157 : Cond.instanceMethod yX1_init ∈ jj_G := jj_t2 (List.mem_of_getElem? (i := 53) (by decide +kernel)) rfl
theorem jn_X1_init : jj_N yX1_init 0 := by unfold jj_N; decide +kernel
theorem jw_159 : Cond.fieldLink RX10 36 "SeriesFund" "desk" "LSeriesFund$Desk;" ∈ jj_G := jj_t2 (List.mem_of_getElem? (i := 102) (by decide +kernel)) rfl
theorem jw_160 : Cond.fieldLink RX10 40 "SeriesFund" "past" "[LSeriesFund$Book;" ∈ jj_G := jj_t2 (List.mem_of_getElem? (i := 103) (by decide +kernel)) rfl
theorem jw_161 : Cond.fieldLink RX10 44 "SeriesFund" "newest" "I" ∈ jj_G := jj_t2 (List.mem_of_getElem? (i := 104) (by decide +kernel)) rfl
theorem jw_162 : Cond.fieldLink RX10 47 "SeriesFund" "remembered" "I" ∈ jj_G := jj_t2 (List.mem_of_getElem? (i := 105) (by decide +kernel)) rfl
theorem jw_164 : Cond.laysFinal RX5 "SeriesFund$Report" "bytes" "[B" ∈ jj_G := jj_t2 (List.mem_of_getElem? (i := 89) (by decide +kernel)) rfl
theorem jw_165 : Cond.lays RX5 "SeriesFund$Report" "length" "I" ∈ jj_G := jj_t2 (List.mem_of_getElem? (i := 91) (by decide +kernel)) rfl
theorem jw_166 : Cond.laysFinal RX5 "SeriesFund$Report" "digits" "[B" ∈ jj_G := jj_t2 (List.mem_of_getElem? (i := 93) (by decide +kernel)) rfl
theorem ju_6 : ∀ w ∈ u_ws RX5 TX5 3, w ∈ jj_G := by
  intro w hw
  obtain ⟨k, hk, rfl⟩ := List.mem_map.mp hw
  have hk := List.mem_range.mp hk
  match k, hk with
  | 0, _ => exact jw_164
  | 1, _ => exact jw_165
  | 2, _ => exact jw_166
  | n + 3, hk => exact absurd hk (by omega)
theorem jk_6 : jj_K 6 RX5 TX5 3 tyX5 := ⟨rfl, ju_6, tyX5_ok, nmX5⟩
theorem jd_6 : ∀ j, j < 3 → defaultValue (tyX5 j) = vp_V [.null, .int 0, .null] j := by
  intro j hj
  match j, hj with
  | 0, _ => rfl
  | 1, _ => rfl
  | 2, _ => rfl
  | n + 3, hj => exact absurd hj (by omega)
theorem jw_167 : Cond.classLink RX10 50 RX5 ∈ jj_G := jj_t2 (List.mem_of_getElem? (i := 78) (by decide +kernel)) rfl
theorem jw_168 : Cond.instantiable RX5 3 ∈ jj_G := jj_t2 (List.mem_of_getElem? (i := 79) (by decide +kernel)) rfl
theorem jw_169 : Cond.initialized RX5 ∈ jj_G := jj_t1 (List.mem_of_getElem? (i := 8) (by decide +kernel)) rfl
theorem jw_170 : Cond.methodLink RX5 3 objectInit ∈ jj_G := jj_t2 (List.mem_of_getElem? (i := 83) (by decide +kernel)) rfl
theorem jw_171 : Cond.arrayClass .byte ∈ jj_G := jj_t2 (List.mem_of_getElem? (i := 96) (by decide +kernel)) rfl
theorem jw_172 : Cond.fieldLink RX5 9 "SeriesFund$Report" "bytes" "[B" ∈ jj_G := jj_t2 (List.mem_of_getElem? (i := 84) (by decide +kernel)) rfl
theorem jw_173 : Cond.fieldLink RX5 15 "SeriesFund$Report" "length" "I" ∈ jj_G := jj_t2 (List.mem_of_getElem? (i := 86) (by decide +kernel)) rfl
theorem jw_174 : Cond.fieldLink RX5 19 "SeriesFund$Report" "digits" "[B" ∈ jj_G := jj_t2 (List.mem_of_getElem? (i := 88) (by decide +kernel)) rfl
theorem jw_175 : Cond.code yX5_init cX5_init 1 none ∈ jj_G := jj_t2 (List.mem_of_getElem? (i := 82) (by decide +kernel)) rfl
theorem jw_176 : Cond.instanceMethod yX5_init ∈ jj_G := jj_t2 (List.mem_of_getElem? (i := 81) (by decide +kernel)) rfl
theorem jn_X5_init : jj_N yX5_init 0 := by unfold jj_N; decide +kernel
theorem jw_178 : Cond.fieldLink RX10 53 "SeriesFund" "report" "LSeriesFund$Report;" ∈ jj_G := jj_t2 (List.mem_of_getElem? (i := 106) (by decide +kernel)) rfl
theorem jw_179 : Cond.code yX10_init cX10_init 1 none ∈ jj_G := jj_t1 (List.mem_of_getElem? (i := 31) (by decide +kernel)) rfl
theorem jw_180 : Cond.methodLink RX11 1 objectInit ∈ jj_G := jj_t6 (List.mem_of_getElem? (i := 149) (by decide +kernel)) rfl
theorem jw_181 : Cond.fieldLink RX11 7 "SeriesFundModel" "w" "[J" ∈ jj_G := jj_t6 (List.mem_of_getElem? (i := 154) (by decide +kernel)) rfl
theorem jw_183 : Cond.laysFinal RX11 "SeriesFundModel" "w" "[J" ∈ jj_G := jj_t6 (List.mem_of_getElem? (i := 179) (by decide +kernel)) rfl
theorem jw_184 : Cond.laysFinal RX11 "SeriesFundModel" "aside" "[J" ∈ jj_G := jj_t6 (List.mem_of_getElem? (i := 181) (by decide +kernel)) rfl
theorem jw_185 : Cond.laysFinal RX11 "SeriesFundModel" "thought" "[J" ∈ jj_G := jj_t6 (List.mem_of_getElem? (i := 183) (by decide +kernel)) rfl
theorem jw_186 : Cond.laysFinal RX11 "SeriesFundModel" "inner" "[J" ∈ jj_G := jj_t6 (List.mem_of_getElem? (i := 185) (by decide +kernel)) rfl
theorem jw_187 : Cond.laysFinal RX11 "SeriesFundModel" "fresh" "[J" ∈ jj_G := jj_t6 (List.mem_of_getElem? (i := 187) (by decide +kernel)) rfl
theorem jw_188 : Cond.laysFinal RX11 "SeriesFundModel" "past" "[J" ∈ jj_G := jj_t6 (List.mem_of_getElem? (i := 189) (by decide +kernel)) rfl
theorem jw_189 : Cond.lays RX11 "SeriesFundModel" "pastCount" "I" ∈ jj_G := jj_t6 (List.mem_of_getElem? (i := 191) (by decide +kernel)) rfl
theorem jw_190 : Cond.lays RX11 "SeriesFundModel" "thrown" "I" ∈ jj_G := jj_t6 (List.mem_of_getElem? (i := 193) (by decide +kernel)) rfl
theorem jw_191 : Cond.lays RX11 "SeriesFundModel" "bases" "J" ∈ jj_G := jj_t6 (List.mem_of_getElem? (i := 195) (by decide +kernel)) rfl
theorem jw_192 : Cond.lays RX11 "SeriesFundModel" "payments" "J" ∈ jj_G := jj_t6 (List.mem_of_getElem? (i := 197) (by decide +kernel)) rfl
theorem jw_193 : Cond.laysFinal RX11 "SeriesFundModel" "took" "[J" ∈ jj_G := jj_t6 (List.mem_of_getElem? (i := 199) (by decide +kernel)) rfl
theorem jw_194 : Cond.laysFinal RX11 "SeriesFundModel" "isDone" "[Z" ∈ jj_G := jj_t6 (List.mem_of_getElem? (i := 201) (by decide +kernel)) rfl
theorem jw_195 : Cond.laysFinal RX11 "SeriesFundModel" "text" "[B" ∈ jj_G := jj_t6 (List.mem_of_getElem? (i := 203) (by decide +kernel)) rfl
theorem jw_196 : Cond.lays RX11 "SeriesFundModel" "length" "I" ∈ jj_G := jj_t6 (List.mem_of_getElem? (i := 205) (by decide +kernel)) rfl
theorem jw_197 : Cond.lays RX11 "SeriesFundModel" "from" "I" ∈ jj_G := jj_t6 (List.mem_of_getElem? (i := 207) (by decide +kernel)) rfl
theorem jw_198 : Cond.lays RX11 "SeriesFundModel" "to" "I" ∈ jj_G := jj_t6 (List.mem_of_getElem? (i := 209) (by decide +kernel)) rfl
theorem jw_199 : Cond.lays RX11 "SeriesFundModel" "end" "I" ∈ jj_G := jj_t6 (List.mem_of_getElem? (i := 211) (by decide +kernel)) rfl
theorem jw_200 : Cond.lays RX11 "SeriesFundModel" "fault" "I" ∈ jj_G := jj_t6 (List.mem_of_getElem? (i := 213) (by decide +kernel)) rfl
theorem jw_201 : Cond.lays RX11 "SeriesFundModel" "faultAt" "I" ∈ jj_G := jj_t6 (List.mem_of_getElem? (i := 215) (by decide +kernel)) rfl
theorem jw_202 : Cond.lays RX11 "SeriesFundModel" "first" "I" ∈ jj_G := jj_t6 (List.mem_of_getElem? (i := 217) (by decide +kernel)) rfl
theorem jw_203 : Cond.lays RX11 "SeriesFundModel" "second" "I" ∈ jj_G := jj_t6 (List.mem_of_getElem? (i := 219) (by decide +kernel)) rfl
theorem jw_204 : Cond.laysFinal RX11 "SeriesFundModel" "assetsLeft" "[J" ∈ jj_G := jj_t6 (List.mem_of_getElem? (i := 221) (by decide +kernel)) rfl
theorem jw_205 : Cond.laysFinal RX11 "SeriesFundModel" "unitsLeft" "[J" ∈ jj_G := jj_t6 (List.mem_of_getElem? (i := 223) (by decide +kernel)) rfl
theorem jw_206 : Cond.laysFinal RX11 "SeriesFundModel" "page" "[B" ∈ jj_G := jj_t6 (List.mem_of_getElem? (i := 225) (by decide +kernel)) rfl
theorem jw_207 : Cond.lays RX11 "SeriesFundModel" "pageLength" "I" ∈ jj_G := jj_t6 (List.mem_of_getElem? (i := 227) (by decide +kernel)) rfl
theorem ju_12 : ∀ w ∈ u_ws RX11 TX11 25, w ∈ jj_G := by
  intro w hw
  obtain ⟨k, hk, rfl⟩ := List.mem_map.mp hw
  have hk := List.mem_range.mp hk
  match k, hk with
  | 0, _ => exact jw_183
  | 1, _ => exact jw_184
  | 2, _ => exact jw_185
  | 3, _ => exact jw_186
  | 4, _ => exact jw_187
  | 5, _ => exact jw_188
  | 6, _ => exact jw_189
  | 7, _ => exact jw_190
  | 8, _ => exact jw_191
  | 9, _ => exact jw_192
  | 10, _ => exact jw_193
  | 11, _ => exact jw_194
  | 12, _ => exact jw_195
  | 13, _ => exact jw_196
  | 14, _ => exact jw_197
  | 15, _ => exact jw_198
  | 16, _ => exact jw_199
  | 17, _ => exact jw_200
  | 18, _ => exact jw_201
  | 19, _ => exact jw_202
  | 20, _ => exact jw_203
  | 21, _ => exact jw_204
  | 22, _ => exact jw_205
  | 23, _ => exact jw_206
  | 24, _ => exact jw_207
  | n + 25, hk => exact absurd hk (by omega)
theorem jk_12 : jj_K 12 RX11 TX11 25 tyX11 := ⟨rfl, ju_12, tyX11_ok, nmX11⟩
theorem jd_12 : ∀ j, j < 25 → defaultValue (tyX11 j) = vp_V [.null, .null, .null, .null, .null, .null, .int 0, .int 0, .long 0, .long 0, .null, .null, .null, .int 0, .int 0, .int 0, .int 0, .int 0, .int 0, .int 0, .int 0, .null, .null, .null, .int 0] j := by
  intro j hj
  match j, hj with
  | 0, _ => rfl
  | 1, _ => rfl
  | 2, _ => rfl
  | 3, _ => rfl
  | 4, _ => rfl
  | 5, _ => rfl
  | 6, _ => rfl
  | 7, _ => rfl
  | 8, _ => rfl
  | 9, _ => rfl
  | 10, _ => rfl
  | 11, _ => rfl
  | 12, _ => rfl
  | 13, _ => rfl
  | 14, _ => rfl
  | 15, _ => rfl
  | 16, _ => rfl
  | 17, _ => rfl
  | 18, _ => rfl
  | 19, _ => rfl
  | 20, _ => rfl
  | 21, _ => rfl
  | 22, _ => rfl
  | 23, _ => rfl
  | 24, _ => rfl
  | n + 25, hj => exact absurd hj (by omega)
theorem jw_208 : Cond.fieldLink RX11 13 "SeriesFundModel" "aside" "[J" ∈ jj_G := jj_t6 (List.mem_of_getElem? (i := 155) (by decide +kernel)) rfl
theorem jw_209 : Cond.fieldLink RX11 16 "SeriesFundModel" "thought" "[J" ∈ jj_G := jj_t6 (List.mem_of_getElem? (i := 156) (by decide +kernel)) rfl
theorem jw_210 : Cond.fieldLink RX11 19 "SeriesFundModel" "inner" "[J" ∈ jj_G := jj_t6 (List.mem_of_getElem? (i := 157) (by decide +kernel)) rfl
theorem jw_211 : Cond.fieldLink RX11 22 "SeriesFundModel" "fresh" "[J" ∈ jj_G := jj_t6 (List.mem_of_getElem? (i := 158) (by decide +kernel)) rfl
theorem jw_212 : Cond.fieldLink RX11 25 "SeriesFundModel" "past" "[J" ∈ jj_G := jj_t6 (List.mem_of_getElem? (i := 159) (by decide +kernel)) rfl
theorem jw_213 : Cond.fieldLink RX11 28 "SeriesFundModel" "took" "[J" ∈ jj_G := jj_t6 (List.mem_of_getElem? (i := 164) (by decide +kernel)) rfl
theorem jw_214 : Cond.arrayClass .boolean ∈ jj_G := jj_t6 (List.mem_of_getElem? (i := 230) (by decide +kernel)) rfl
theorem jw_215 : Cond.fieldLink RX11 31 "SeriesFundModel" "isDone" "[Z" ∈ jj_G := jj_t6 (List.mem_of_getElem? (i := 165) (by decide +kernel)) rfl
theorem jw_216 : Cond.fieldLink RX11 35 "SeriesFundModel" "text" "[B" ∈ jj_G := jj_t6 (List.mem_of_getElem? (i := 166) (by decide +kernel)) rfl
theorem jw_217 : Cond.fieldLink RX11 39 "SeriesFundModel" "faultAt" "I" ∈ jj_G := jj_t6 (List.mem_of_getElem? (i := 172) (by decide +kernel)) rfl
theorem jw_218 : Cond.fieldLink RX11 43 "SeriesFundModel" "assetsLeft" "[J" ∈ jj_G := jj_t6 (List.mem_of_getElem? (i := 175) (by decide +kernel)) rfl
theorem jw_219 : Cond.fieldLink RX11 46 "SeriesFundModel" "unitsLeft" "[J" ∈ jj_G := jj_t6 (List.mem_of_getElem? (i := 176) (by decide +kernel)) rfl
theorem jw_220 : Cond.fieldLink RX11 49 "SeriesFundModel" "page" "[B" ∈ jj_G := jj_t6 (List.mem_of_getElem? (i := 177) (by decide +kernel)) rfl
theorem jw_221 : Cond.constantLong RX11 56 (100) ∈ jj_G := jj_t6 (List.mem_of_getElem? (i := 153) (by decide +kernel)) rfl
theorem jw_222 : Cond.code yX11_lay cX11_lay 2 none ∈ jj_G := jj_t6 (List.mem_of_getElem? (i := 152) (by decide +kernel)) rfl
theorem jw_223 : Cond.methodLink RX11 52 yX11_lay ∈ jj_G := jj_t6 (List.mem_of_getElem? (i := 150) (by decide +kernel)) rfl
theorem jw_224 : Cond.initialized RX11 ∈ jj_G := jj_t1 (List.mem_of_getElem? (i := 9) (by decide +kernel)) rfl
theorem jw_225 : Cond.static yX11_lay ∈ jj_G := jj_t6 (List.mem_of_getElem? (i := 151) (by decide +kernel)) rfl
theorem jn_X11_lay : jj_N yX11_lay 1 := by unfold jj_N; decide +kernel
theorem jw_227 : Cond.code yX11_init cX11_init 1 none ∈ jj_G := jj_t6 (List.mem_of_getElem? (i := 148) (by decide +kernel)) rfl
theorem jw_228 : Cond.fieldLink RX10 57 "SeriesFund$Tokens" "held" "I" ∈ jj_G := jj_t1 (List.mem_of_getElem? (i := 43) (by decide +kernel)) rfl
theorem jw_229 : Cond.code yX9_putFour cX9_putFour 3 none ∈ jj_G := jj_t4 (List.mem_of_getElem? (i := 230) (by decide +kernel)) rfl
theorem jw_230 : Cond.methodLink RX10 67 yX9_putFour ∈ jj_G := jj_t4 (List.mem_of_getElem? (i := 227) (by decide +kernel)) rfl
theorem jw_231 : Cond.instanceMethod yX9_putFour ∈ jj_G := jj_t4 (List.mem_of_getElem? (i := 228) (by decide +kernel)) rfl
theorem jw_232 : Cond.selects RX9 yX9_putFour yX9_putFour ∈ jj_G := jj_t4 (List.mem_of_getElem? (i := 229) (by decide +kernel)) rfl
theorem jn_X9_putFour : jj_N yX9_putFour 1 := by unfold jj_N; decide +kernel
theorem jw_234 : Cond.code yX10_appendText cX10_appendText 6 (some .int) ∈ jj_G := jj_t4 (List.mem_of_getElem? (i := 156) (by decide +kernel)) rfl
theorem jw_235 : Cond.fieldLink RX11 301 "SeriesFundModel" "length" "I" ∈ jj_G := jj_t6 (List.mem_of_getElem? (i := 167) (by decide +kernel)) rfl
theorem jw_236 : Cond.fieldLink RX11 58 "SeriesFundModel" "thrown" "I" ∈ jj_G := jj_t6 (List.mem_of_getElem? (i := 161) (by decide +kernel)) rfl
theorem jw_237 : Cond.code yX11_bring cX11_bring 3 none ∈ jj_G := jj_t8 (List.mem_of_getElem? (i := 45) (by decide +kernel)) rfl
theorem jw_238 : Cond.methodLink RX11 304 yX11_bring ∈ jj_G := jj_t8 (List.mem_of_getElem? (i := 42) (by decide +kernel)) rfl
theorem jw_239 : Cond.instanceMethod yX11_bring ∈ jj_G := jj_t8 (List.mem_of_getElem? (i := 44) (by decide +kernel)) rfl
theorem jw_240 : Cond.selects RX11 yX11_bring yX11_bring ∈ jj_G := jj_pv (q := (yX11_bring, 25)) (by decide +kernel)
theorem jn_X11_bring : jj_N yX11_bring 1 := by unfold jj_N; decide +kernel
theorem jw_242 : Cond.code yX11_appendText cX11_appendText 6 (some .int) ∈ jj_G := jj_t8 (List.mem_of_getElem? (i := 41) (by decide +kernel)) rfl
theorem jt_RX10_75 : jj_T RX10 75 "java/lang/IllegalArgumentException" ["java/lang/RuntimeException", "java/lang/Exception"] := ⟨by decide +kernel, by decide +kernel, by decide +kernel, by decide +kernel, by decide +kernel, by decide +kernel⟩
theorem jw_244 : Cond.classLink RX10 71 "java/lang/IllegalArgumentException" ∈ jj_G := jj_t4 (List.mem_of_getElem? (i := 239) (by decide +kernel)) rfl
theorem jw_245 : Cond.code yX10_truncateText cX10_truncateText 2 (some .int) ∈ jj_G := jj_t4 (List.mem_of_getElem? (i := 238) (by decide +kernel)) rfl
theorem jw_246 : Cond.code yX11_in cX11_in 6 (some .boolean) ∈ jj_G := jj_t7 (List.mem_of_getElem? (i := 128) (by decide +kernel)) rfl
theorem jw_247 : Cond.methodLink RX11 61 yX11_in ∈ jj_G := jj_t7 (List.mem_of_getElem? (i := 126) (by decide +kernel)) rfl
theorem jw_248 : Cond.static yX11_in ∈ jj_G := jj_t7 (List.mem_of_getElem? (i := 127) (by decide +kernel)) rfl
theorem jn_X11_in : jj_N yX11_in 3 := by unfold jj_N; decide +kernel
theorem jw_250 : Cond.code yX11_no cX11_no 2 (some .int) ∈ jj_G := jj_t7 (List.mem_of_getElem? (i := 2) (by decide +kernel)) rfl
theorem jw_251 : Cond.methodLink RX11 83 yX11_no ∈ jj_G := jj_t6 (List.mem_of_getElem? (i := 239) (by decide +kernel)) rfl
theorem jw_252 : Cond.instanceMethod yX11_no ∈ jj_G := jj_t7 (List.mem_of_getElem? (i := 1) (by decide +kernel)) rfl
theorem jw_253 : Cond.selects RX11 yX11_no yX11_no ∈ jj_G := jj_pv (q := (yX11_no, 25)) (by decide +kernel)
theorem jn_X11_no : jj_N yX11_no 1 := by unfold jj_N; decide +kernel
theorem jw_255 : Cond.code yX11_truncateText cX11_truncateText 2 (some .int) ∈ jj_G := jj_t8 (List.mem_of_getElem? (i := 49) (by decide +kernel)) rfl
theorem jw_256 : Cond.code yX0_hasInvestor cX0_hasInvestor 2 (some .boolean) ∈ jj_G := jj_t4 (List.mem_of_getElem? (i := 37) (by decide +kernel)) rfl
theorem jw_257 : Cond.methodLink RX0 135 yX0_hasInvestor ∈ jj_G := jj_t4 (List.mem_of_getElem? (i := 34) (by decide +kernel)) rfl
theorem jw_258 : Cond.instanceMethod yX0_hasInvestor ∈ jj_G := jj_t4 (List.mem_of_getElem? (i := 35) (by decide +kernel)) rfl
theorem jw_259 : Cond.selects RX0 yX0_hasInvestor yX0_hasInvestor ∈ jj_G := jj_t4 (List.mem_of_getElem? (i := 36) (by decide +kernel)) rfl
theorem jn_X0_hasInvestor : jj_N yX0_hasInvestor 1 := by unfold jj_N; decide +kernel
theorem jw_261 : Cond.constant RX0 161 (9999999) ∈ jj_G := jj_t4 (List.mem_of_getElem? (i := 38) (by decide +kernel)) rfl
theorem jw_262 : Cond.code yX0_subscriptionFault cX0_subscriptionFault 3 (some .int) ∈ jj_G := jj_t4 (List.mem_of_getElem? (i := 33) (by decide +kernel)) rfl
theorem jw_263 : Cond.methodLink RX10 105 yX0_subscriptionFault ∈ jj_G := jj_t5 (List.mem_of_getElem? (i := 46) (by decide +kernel)) rfl
theorem jw_264 : Cond.instanceMethod yX0_subscriptionFault ∈ jj_G := jj_t4 (List.mem_of_getElem? (i := 31) (by decide +kernel)) rfl
theorem jw_265 : Cond.selects RX0 yX0_subscriptionFault yX0_subscriptionFault ∈ jj_G := jj_t4 (List.mem_of_getElem? (i := 32) (by decide +kernel)) rfl
theorem jn_X0_subscriptionFault : jj_N yX0_subscriptionFault 2 := by unfold jj_N; decide +kernel
theorem jt_RX10_200 : jj_T RX10 200 "java/lang/IndexOutOfBoundsException" ["java/lang/RuntimeException", "java/lang/Exception"] := ⟨by decide +kernel, by decide +kernel, by decide +kernel, by decide +kernel, by decide +kernel, by decide +kernel⟩
theorem jw_268 : Cond.classLink RX10 196 "java/lang/IndexOutOfBoundsException" ∈ jj_G := jj_t5 (List.mem_of_getElem? (i := 50) (by decide +kernel)) rfl
theorem jw_269 : Cond.code yX10_refuse cX10_refuse 1 none ∈ jj_G := jj_t5 (List.mem_of_getElem? (i := 49) (by decide +kernel)) rfl
theorem jw_270 : Cond.methodLink RX10 109 yX10_refuse ∈ jj_G := jj_t5 (List.mem_of_getElem? (i := 47) (by decide +kernel)) rfl
theorem jw_271 : Cond.initialized RX10 ∈ jj_G := jj_t1 (List.mem_of_getElem? (i := 1) (by decide +kernel)) rfl
theorem jw_272 : Cond.static yX10_refuse ∈ jj_G := jj_t5 (List.mem_of_getElem? (i := 48) (by decide +kernel)) rfl
theorem jn_X10_refuse : jj_N yX10_refuse 1 := by unfold jj_N; decide +kernel
theorem jw_274 : Cond.code yX0_copyFrom cX0_copyFrom 3 none ∈ jj_G := jj_t3 (List.mem_of_getElem? (i := 149) (by decide +kernel)) rfl
theorem jw_275 : Cond.methodLink RX10 101 yX0_copyFrom ∈ jj_G := jj_t3 (List.mem_of_getElem? (i := 146) (by decide +kernel)) rfl
theorem jw_276 : Cond.instanceMethod yX0_copyFrom ∈ jj_G := jj_t3 (List.mem_of_getElem? (i := 147) (by decide +kernel)) rfl
theorem jw_277 : Cond.selects RX0 yX0_copyFrom yX0_copyFrom ∈ jj_G := jj_t3 (List.mem_of_getElem? (i := 148) (by decide +kernel)) rfl
theorem jn_X0_copyFrom : jj_N yX0_copyFrom 1 := by unfold jj_N; decide +kernel
theorem jw_279 : Cond.code yX10_remember cX10_remember 1 none ∈ jj_G := jj_t3 (List.mem_of_getElem? (i := 174) (by decide +kernel)) rfl
theorem jw_280 : Cond.methodLink RX10 112 yX10_remember ∈ jj_G := jj_t3 (List.mem_of_getElem? (i := 171) (by decide +kernel)) rfl
theorem jw_281 : Cond.instanceMethod yX10_remember ∈ jj_G := jj_t3 (List.mem_of_getElem? (i := 173) (by decide +kernel)) rfl
theorem jw_282 : Cond.selects RX10 yX10_remember yX10_remember ∈ jj_G := jj_pv (q := (yX10_remember, 10)) (by decide +kernel)
theorem jn_X10_remember : jj_N yX10_remember 0 := by unfold jj_N; decide +kernel
theorem jw_284 : Cond.code yJ9_min_7cf53 cJ9_min_7cf53 2 (some .int) ∈ jj_G := jj_t3 (List.mem_of_getElem? (i := 33) (by decide +kernel)) rfl
theorem jw_285 : Cond.methodLink RX0 120 yJ9_min_7cf53 ∈ jj_G := jj_t3 (List.mem_of_getElem? (i := 31) (by decide +kernel)) rfl
theorem jw_286 : Cond.initialized RJ9 ∈ jj_G := jj_t1 (List.mem_of_getElem? (i := 20) (by decide +kernel)) rfl
theorem jw_287 : Cond.static yJ9_min_7cf53 ∈ jj_G := jj_t3 (List.mem_of_getElem? (i := 32) (by decide +kernel)) rfl
theorem jn_J9_min_7cf53 : jj_N yJ9_min_7cf53 2 := by unfold jj_N; decide +kernel
theorem jw_289 : Cond.fieldLink RX0 166 "SeriesFund$Request" "investor" "I" ∈ jj_G := jj_t1 (List.mem_of_getElem? (i := 177) (by decide +kernel)) rfl
theorem jw_290 : Cond.fieldLink RX0 162 "SeriesFund$Request" "redemption" "Z" ∈ jj_G := jj_t1 (List.mem_of_getElem? (i := 184) (by decide +kernel)) rfl
theorem jw_291 : Cond.fieldLink RX0 167 "SeriesFund$Request" "quantity" "J" ∈ jj_G := jj_t1 (List.mem_of_getElem? (i := 189) (by decide +kernel)) rfl
theorem jw_292 : Cond.fieldLink RX0 170 "SeriesFund$Request" "redeemed" "J" ∈ jj_G := jj_t1 (List.mem_of_getElem? (i := 192) (by decide +kernel)) rfl
theorem jw_293 : Cond.fieldLink RX0 173 "SeriesFund$Request" "day" "I" ∈ jj_G := jj_t1 (List.mem_of_getElem? (i := 180) (by decide +kernel)) rfl
theorem jw_294 : Cond.code yX0_addRequest cX0_addRequest 7 (some .int) ∈ jj_G := jj_t3 (List.mem_of_getElem? (i := 30) (by decide +kernel)) rfl
theorem jw_295 : Cond.methodLink RX10 115 yX0_addRequest ∈ jj_G := jj_t5 (List.mem_of_getElem? (i := 65) (by decide +kernel)) rfl
theorem jw_296 : Cond.instanceMethod yX0_addRequest ∈ jj_G := jj_t3 (List.mem_of_getElem? (i := 28) (by decide +kernel)) rfl
theorem jw_297 : Cond.selects RX0 yX0_addRequest yX0_addRequest ∈ jj_G := jj_t3 (List.mem_of_getElem? (i := 29) (by decide +kernel)) rfl
theorem jn_X0_addRequest : jj_N yX0_addRequest 3 := by unfold jj_N; decide +kernel
theorem jw_299 : Cond.code yX10_subscribe cX10_subscribe 3 (some .int) ∈ jj_G := jj_t5 (List.mem_of_getElem? (i := 45) (by decide +kernel)) rfl
theorem jw_300 : Cond.code yX11_isInvestor cX11_isInvestor 2 (some .boolean) ∈ jj_G := jj_t7 (List.mem_of_getElem? (i := 150) (by decide +kernel)) rfl
theorem jw_301 : Cond.methodLink RX11 65 yX11_isInvestor ∈ jj_G := jj_t7 (List.mem_of_getElem? (i := 147) (by decide +kernel)) rfl
theorem jw_302 : Cond.instanceMethod yX11_isInvestor ∈ jj_G := jj_t7 (List.mem_of_getElem? (i := 149) (by decide +kernel)) rfl
theorem jw_303 : Cond.selects RX11 yX11_isInvestor yX11_isInvestor ∈ jj_G := jj_pv (q := (yX11_isInvestor, 25)) (by decide +kernel)
theorem jn_X11_isInvestor : jj_N yX11_isInvestor 1 := by unfold jj_N; decide +kernel
theorem jw_305 : Cond.code yX11_fails cX11_fails 3 (some .boolean) ∈ jj_G := jj_t7 (List.mem_of_getElem? (i := 154) (by decide +kernel)) rfl
theorem jw_306 : Cond.methodLink RX11 69 yX11_fails ∈ jj_G := jj_t7 (List.mem_of_getElem? (i := 151) (by decide +kernel)) rfl
theorem jw_307 : Cond.instanceMethod yX11_fails ∈ jj_G := jj_t7 (List.mem_of_getElem? (i := 153) (by decide +kernel)) rfl
theorem jw_308 : Cond.selects RX11 yX11_fails yX11_fails ∈ jj_G := jj_pv (q := (yX11_fails, 25)) (by decide +kernel)
theorem jn_X11_fails : jj_N yX11_fails 2 := by unfold jj_N; decide +kernel
theorem jw_310 : Cond.code yX11_isNoInvestor cX11_isNoInvestor 2 (some .boolean) ∈ jj_G := jj_t7 (List.mem_of_getElem? (i := 146) (by decide +kernel)) rfl
theorem jw_311 : Cond.methodLink RX11 214 yX11_isNoInvestor ∈ jj_G := jj_t7 (List.mem_of_getElem? (i := 143) (by decide +kernel)) rfl
theorem jw_312 : Cond.instanceMethod yX11_isNoInvestor ∈ jj_G := jj_t7 (List.mem_of_getElem? (i := 145) (by decide +kernel)) rfl
theorem jw_313 : Cond.selects RX11 yX11_isNoInvestor yX11_isNoInvestor ∈ jj_G := jj_pv (q := (yX11_isNoInvestor, 25)) (by decide +kernel)
theorem jn_X11_isNoInvestor : jj_N yX11_isNoInvestor 1 := by unfold jj_N; decide +kernel
theorem jw_315 : Cond.constantLong RX11 208 (9999999) ∈ jj_G := jj_t7 (List.mem_of_getElem? (i := 158) (by decide +kernel)) rfl
theorem jw_316 : Cond.code yX11_isAmount cX11_isAmount 1 (some .boolean) ∈ jj_G := jj_t7 (List.mem_of_getElem? (i := 157) (by decide +kernel)) rfl
theorem jw_317 : Cond.methodLink RX11 217 yX11_isAmount ∈ jj_G := jj_t7 (List.mem_of_getElem? (i := 155) (by decide +kernel)) rfl
theorem jw_318 : Cond.static yX11_isAmount ∈ jj_G := jj_t7 (List.mem_of_getElem? (i := 156) (by decide +kernel)) rfl
theorem jn_X11_isAmount : jj_N yX11_isAmount 1 := by unfold jj_N; decide +kernel
theorem jw_320 : Cond.constantLong RX11 212 (12) ∈ jj_G := jj_t7 (List.mem_of_getElem? (i := 163) (by decide +kernel)) rfl
theorem jw_321 : Cond.code yX11_isFull cX11_isFull 1 (some .boolean) ∈ jj_G := jj_t7 (List.mem_of_getElem? (i := 162) (by decide +kernel)) rfl
theorem jw_322 : Cond.methodLink RX11 220 yX11_isFull ∈ jj_G := jj_t7 (List.mem_of_getElem? (i := 159) (by decide +kernel)) rfl
theorem jw_323 : Cond.instanceMethod yX11_isFull ∈ jj_G := jj_t7 (List.mem_of_getElem? (i := 161) (by decide +kernel)) rfl
theorem jw_324 : Cond.selects RX11 yX11_isFull yX11_isFull ∈ jj_G := jj_pv (q := (yX11_isFull, 25)) (by decide +kernel)
theorem jn_X11_isFull : jj_N yX11_isFull 0 := by unfold jj_N; decide +kernel
theorem jw_326 : Cond.code yX11_copy cX11_copy 3 none ∈ jj_G := jj_t7 (List.mem_of_getElem? (i := 17) (by decide +kernel)) rfl
theorem jw_327 : Cond.methodLink RX11 76 yX11_copy ∈ jj_G := jj_t7 (List.mem_of_getElem? (i := 15) (by decide +kernel)) rfl
theorem jw_328 : Cond.static yX11_copy ∈ jj_G := jj_t7 (List.mem_of_getElem? (i := 16) (by decide +kernel)) rfl
theorem jn_X11_copy : jj_N yX11_copy 2 := by unfold jj_N; decide +kernel
theorem jw_330 : Cond.fieldLink RX11 73 "SeriesFundModel" "pastCount" "I" ∈ jj_G := jj_t6 (List.mem_of_getElem? (i := 160) (by decide +kernel)) rfl
theorem jw_331 : Cond.code yX11_push cX11_push 2 none ∈ jj_G := jj_t7 (List.mem_of_getElem? (i := 21) (by decide +kernel)) rfl
theorem jw_332 : Cond.methodLink RX11 80 yX11_push ∈ jj_G := jj_t7 (List.mem_of_getElem? (i := 18) (by decide +kernel)) rfl
theorem jw_333 : Cond.instanceMethod yX11_push ∈ jj_G := jj_t7 (List.mem_of_getElem? (i := 20) (by decide +kernel)) rfl
theorem jw_334 : Cond.selects RX11 yX11_push yX11_push ∈ jj_G := jj_pv (q := (yX11_push, 25)) (by decide +kernel)
theorem jn_X11_push : jj_N yX11_push 0 := by unfold jj_N; decide +kernel
theorem jw_336 : Cond.code yX11_remember cX11_remember 1 none ∈ jj_G := jj_t7 (List.mem_of_getElem? (i := 14) (by decide +kernel)) rfl
theorem jw_337 : Cond.methodLink RX11 202 yX11_remember ∈ jj_G := jj_t7 (List.mem_of_getElem? (i := 11) (by decide +kernel)) rfl
theorem jw_338 : Cond.instanceMethod yX11_remember ∈ jj_G := jj_t7 (List.mem_of_getElem? (i := 13) (by decide +kernel)) rfl
theorem jw_339 : Cond.selects RX11 yX11_remember yX11_remember ∈ jj_G := jj_pv (q := (yX11_remember, 25)) (by decide +kernel)
theorem jn_X11_remember : jj_N yX11_remember 0 := by unfold jj_N; decide +kernel
theorem jw_341 : Cond.code yX11_requestAt cX11_requestAt 1 (some .int) ∈ jj_G := jj_t7 (List.mem_of_getElem? (i := 40) (by decide +kernel)) rfl
theorem jw_342 : Cond.methodLink RX11 160 yX11_requestAt ∈ jj_G := jj_t7 (List.mem_of_getElem? (i := 38) (by decide +kernel)) rfl
theorem jw_343 : Cond.static yX11_requestAt ∈ jj_G := jj_t7 (List.mem_of_getElem? (i := 39) (by decide +kernel)) rfl
theorem jn_X11_requestAt : jj_N yX11_requestAt 1 := by unfold jj_N; decide +kernel
theorem jw_345 : Cond.code yX11_ask cX11_ask 8 none ∈ jj_G := jj_t7 (List.mem_of_getElem? (i := 167) (by decide +kernel)) rfl
theorem jw_346 : Cond.methodLink RX11 224 yX11_ask ∈ jj_G := jj_t7 (List.mem_of_getElem? (i := 164) (by decide +kernel)) rfl
theorem jw_347 : Cond.instanceMethod yX11_ask ∈ jj_G := jj_t7 (List.mem_of_getElem? (i := 166) (by decide +kernel)) rfl
theorem jw_348 : Cond.selects RX11 yX11_ask yX11_ask ∈ jj_G := jj_pv (q := (yX11_ask, 25)) (by decide +kernel)
theorem jn_X11_ask : jj_N yX11_ask 4 := by unfold jj_N; decide +kernel
theorem jw_350 : Cond.code yX11_subscribe cX11_subscribe 3 (some .int) ∈ jj_G := jj_t7 (List.mem_of_getElem? (i := 142) (by decide +kernel)) rfl
theorem jw_351 : Cond.constant RX0 139 (99999999) ∈ jj_G := jj_t4 (List.mem_of_getElem? (i := 43) (by decide +kernel)) rfl
theorem jw_352 : Cond.code yX0_unitsWaitingOf cX0_unitsWaitingOf 5 (some .long) ∈ jj_G := jj_t4 (List.mem_of_getElem? (i := 47) (by decide +kernel)) rfl
theorem jw_353 : Cond.methodLink RX0 143 yX0_unitsWaitingOf ∈ jj_G := jj_t4 (List.mem_of_getElem? (i := 44) (by decide +kernel)) rfl
theorem jw_354 : Cond.instanceMethod yX0_unitsWaitingOf ∈ jj_G := jj_t4 (List.mem_of_getElem? (i := 45) (by decide +kernel)) rfl
theorem jw_355 : Cond.selects RX0 yX0_unitsWaitingOf yX0_unitsWaitingOf ∈ jj_G := jj_t4 (List.mem_of_getElem? (i := 46) (by decide +kernel)) rfl
theorem jn_X0_unitsWaitingOf : jj_N yX0_unitsWaitingOf 1 := by unfold jj_N; decide +kernel
theorem jw_357 : Cond.code yX0_unitsHeldBy cX0_unitsHeldBy 5 (some .long) ∈ jj_G := jj_t3 (List.mem_of_getElem? (i := 118) (by decide +kernel)) rfl
theorem jw_358 : Cond.methodLink RX0 140 yX0_unitsHeldBy ∈ jj_G := jj_t4 (List.mem_of_getElem? (i := 48) (by decide +kernel)) rfl
theorem jw_359 : Cond.instanceMethod yX0_unitsHeldBy ∈ jj_G := jj_t3 (List.mem_of_getElem? (i := 116) (by decide +kernel)) rfl
theorem jw_360 : Cond.selects RX0 yX0_unitsHeldBy yX0_unitsHeldBy ∈ jj_G := jj_t3 (List.mem_of_getElem? (i := 117) (by decide +kernel)) rfl
theorem jn_X0_unitsHeldBy : jj_N yX0_unitsHeldBy 1 := by unfold jj_N; decide +kernel
theorem jw_362 : Cond.code yX0_redemptionFault cX0_redemptionFault 3 (some .int) ∈ jj_G := jj_t4 (List.mem_of_getElem? (i := 42) (by decide +kernel)) rfl
theorem jw_363 : Cond.methodLink RX10 119 yX0_redemptionFault ∈ jj_G := jj_t5 (List.mem_of_getElem? (i := 73) (by decide +kernel)) rfl
theorem jw_364 : Cond.instanceMethod yX0_redemptionFault ∈ jj_G := jj_t4 (List.mem_of_getElem? (i := 40) (by decide +kernel)) rfl
theorem jw_365 : Cond.selects RX0 yX0_redemptionFault yX0_redemptionFault ∈ jj_G := jj_t4 (List.mem_of_getElem? (i := 41) (by decide +kernel)) rfl
theorem jn_X0_redemptionFault : jj_N yX0_redemptionFault 2 := by unfold jj_N; decide +kernel
theorem jt_RX10_64 : jj_T RX10 64 "java/lang/IllegalStateException" ["java/lang/RuntimeException", "java/lang/Exception"] := ⟨by decide +kernel, by decide +kernel, by decide +kernel, by decide +kernel, by decide +kernel, by decide +kernel⟩
theorem jw_368 : Cond.classLink RX10 60 "java/lang/IllegalStateException" ∈ jj_G := jj_t4 (List.mem_of_getElem? (i := 157) (by decide +kernel)) rfl
theorem jw_369 : Cond.code yX10_redeem cX10_redeem 3 (some .int) ∈ jj_G := jj_t5 (List.mem_of_getElem? (i := 72) (by decide +kernel)) rfl
theorem jw_370 : Cond.constantLong RX11 210 (99999999) ∈ jj_G := jj_t7 (List.mem_of_getElem? (i := 175) (by decide +kernel)) rfl
theorem jw_371 : Cond.code yX11_isUnits cX11_isUnits 1 (some .boolean) ∈ jj_G := jj_t7 (List.mem_of_getElem? (i := 174) (by decide +kernel)) rfl
theorem jw_372 : Cond.methodLink RX11 231 yX11_isUnits ∈ jj_G := jj_t7 (List.mem_of_getElem? (i := 172) (by decide +kernel)) rfl
theorem jw_373 : Cond.static yX11_isUnits ∈ jj_G := jj_t7 (List.mem_of_getElem? (i := 173) (by decide +kernel)) rfl
theorem jn_X11_isUnits : jj_N yX11_isUnits 1 := by unfold jj_N; decide +kernel
theorem jw_375 : Cond.code yX11_waitingOf cX11_waitingOf 5 (some .long) ∈ jj_G := jj_t7 (List.mem_of_getElem? (i := 183) (by decide +kernel)) rfl
theorem jw_376 : Cond.methodLink RX11 228 yX11_waitingOf ∈ jj_G := jj_t7 (List.mem_of_getElem? (i := 180) (by decide +kernel)) rfl
theorem jw_377 : Cond.instanceMethod yX11_waitingOf ∈ jj_G := jj_t7 (List.mem_of_getElem? (i := 182) (by decide +kernel)) rfl
theorem jw_378 : Cond.selects RX11 yX11_waitingOf yX11_waitingOf ∈ jj_G := jj_pv (q := (yX11_waitingOf, 25)) (by decide +kernel)
theorem jn_X11_waitingOf : jj_N yX11_waitingOf 1 := by unfold jj_N; decide +kernel
theorem jw_380 : Cond.code yX11_unitsBy cX11_unitsBy 5 (some .long) ∈ jj_G := jj_t7 (List.mem_of_getElem? (i := 115) (by decide +kernel)) rfl
theorem jw_381 : Cond.methodLink RX11 153 yX11_unitsBy ∈ jj_G := jj_t7 (List.mem_of_getElem? (i := 112) (by decide +kernel)) rfl
theorem jw_382 : Cond.instanceMethod yX11_unitsBy ∈ jj_G := jj_t7 (List.mem_of_getElem? (i := 114) (by decide +kernel)) rfl
theorem jw_383 : Cond.selects RX11 yX11_unitsBy yX11_unitsBy ∈ jj_G := jj_pv (q := (yX11_unitsBy, 25)) (by decide +kernel)
theorem jn_X11_unitsBy : jj_N yX11_unitsBy 1 := by unfold jj_N; decide +kernel
theorem jw_385 : Cond.code yX11_canRedeem cX11_canRedeem 3 (some .boolean) ∈ jj_G := jj_t7 (List.mem_of_getElem? (i := 179) (by decide +kernel)) rfl
theorem jw_386 : Cond.methodLink RX11 234 yX11_canRedeem ∈ jj_G := jj_t7 (List.mem_of_getElem? (i := 176) (by decide +kernel)) rfl
theorem jw_387 : Cond.instanceMethod yX11_canRedeem ∈ jj_G := jj_t7 (List.mem_of_getElem? (i := 178) (by decide +kernel)) rfl
theorem jw_388 : Cond.selects RX11 yX11_canRedeem yX11_canRedeem ∈ jj_G := jj_pv (q := (yX11_canRedeem, 25)) (by decide +kernel)
theorem jn_X11_canRedeem : jj_N yX11_canRedeem 2 := by unfold jj_N; decide +kernel
theorem jw_390 : Cond.code yX11_redeem cX11_redeem 3 (some .int) ∈ jj_G := jj_t7 (List.mem_of_getElem? (i := 171) (by decide +kernel)) rfl
theorem jw_391 : Cond.fieldLink RX10 94 "SeriesFund$Book" "requestCount" "I" ∈ jj_G := jj_t2 (List.mem_of_getElem? (i := 4) (by decide +kernel)) rfl
theorem jw_392 : Cond.code yX10_checkRequest cX10_checkRequest 2 none ∈ jj_G := jj_t5 (List.mem_of_getElem? (i := 84) (by decide +kernel)) rfl
theorem jw_393 : Cond.methodLink RX10 122 yX10_checkRequest ∈ jj_G := jj_t5 (List.mem_of_getElem? (i := 81) (by decide +kernel)) rfl
theorem jw_394 : Cond.instanceMethod yX10_checkRequest ∈ jj_G := jj_t5 (List.mem_of_getElem? (i := 83) (by decide +kernel)) rfl
theorem jw_395 : Cond.selects RX10 yX10_checkRequest yX10_checkRequest ∈ jj_G := jj_pv (q := (yX10_checkRequest, 10)) (by decide +kernel)
theorem jn_X10_checkRequest : jj_N yX10_checkRequest 1 := by unfold jj_N; decide +kernel
theorem jw_397 : Cond.code yX10_withdraw cX10_withdraw 4 (some .long) ∈ jj_G := jj_t5 (List.mem_of_getElem? (i := 80) (by decide +kernel)) rfl
theorem jw_398 : Cond.code yX11_isNoRequest cX11_isNoRequest 2 (some .boolean) ∈ jj_G := jj_t7 (List.mem_of_getElem? (i := 191) (by decide +kernel)) rfl
theorem jw_399 : Cond.methodLink RX11 238 yX11_isNoRequest ∈ jj_G := jj_t7 (List.mem_of_getElem? (i := 188) (by decide +kernel)) rfl
theorem jw_400 : Cond.instanceMethod yX11_isNoRequest ∈ jj_G := jj_t7 (List.mem_of_getElem? (i := 190) (by decide +kernel)) rfl
theorem jw_401 : Cond.selects RX11 yX11_isNoRequest yX11_isNoRequest ∈ jj_G := jj_pv (q := (yX11_isNoRequest, 25)) (by decide +kernel)
theorem jn_X11_isNoRequest : jj_N yX11_isNoRequest 1 := by unfold jj_N; decide +kernel
theorem jw_403 : Cond.code yX11_withdraw cX11_withdraw 4 (some .long) ∈ jj_G := jj_t7 (List.mem_of_getElem? (i := 187) (by decide +kernel)) rfl
theorem jw_404 : Cond.fieldLink RX2 13 "SeriesFund$Book" "seriesCount" "I" ∈ jj_G := jj_t1 (List.mem_of_getElem? (i := 235) (by decide +kernel)) rfl
theorem jw_405 : Cond.code yX2_earningFault cX2_earningFault 5 (some .int) ∈ jj_G := jj_t4 (List.mem_of_getElem? (i := 51) (by decide +kernel)) rfl
theorem jw_406 : Cond.methodLink RX10 138 yX2_earningFault ∈ jj_G := jj_t5 (List.mem_of_getElem? (i := 97) (by decide +kernel)) rfl
theorem jw_407 : Cond.initialized RX2 ∈ jj_G := jj_t1 (List.mem_of_getElem? (i := 21) (by decide +kernel)) rfl
theorem jw_408 : Cond.static yX2_earningFault ∈ jj_G := jj_t4 (List.mem_of_getElem? (i := 50) (by decide +kernel)) rfl
theorem jn_X2_earningFault : jj_N yX2_earningFault 2 := by unfold jj_N; decide +kernel
theorem jw_410 : Cond.fieldLink RX2 41 "SeriesFund$Book" "accounts" "[J" ∈ jj_G := jj_t2 (List.mem_of_getElem? (i := 6) (by decide +kernel)) rfl
theorem jw_411 : Cond.code yX2_earnRate cX2_earnRate 7 (some .long) ∈ jj_G := jj_t4 (List.mem_of_getElem? (i := 66) (by decide +kernel)) rfl
theorem jw_412 : Cond.methodLink RX10 144 yX2_earnRate ∈ jj_G := jj_t5 (List.mem_of_getElem? (i := 98) (by decide +kernel)) rfl
theorem jw_413 : Cond.static yX2_earnRate ∈ jj_G := jj_t4 (List.mem_of_getElem? (i := 65) (by decide +kernel)) rfl
theorem jn_X2_earnRate : jj_N yX2_earnRate 2 := by unfold jj_N; decide +kernel
theorem jw_415 : Cond.code yX10_earn cX10_earn 2 (some .long) ∈ jj_G := jj_t5 (List.mem_of_getElem? (i := 96) (by decide +kernel)) rfl
theorem jw_416 : Cond.constantLong RX11 247 (-9000) ∈ jj_G := jj_t7 (List.mem_of_getElem? (i := 199) (by decide +kernel)) rfl
theorem jw_417 : Cond.constantLong RX11 249 (9999) ∈ jj_G := jj_t7 (List.mem_of_getElem? (i := 200) (by decide +kernel)) rfl
theorem jw_418 : Cond.code yX11_isRate cX11_isRate 1 (some .boolean) ∈ jj_G := jj_t7 (List.mem_of_getElem? (i := 198) (by decide +kernel)) rfl
theorem jw_419 : Cond.methodLink RX11 251 yX11_isRate ∈ jj_G := jj_t7 (List.mem_of_getElem? (i := 196) (by decide +kernel)) rfl
theorem jw_420 : Cond.static yX11_isRate ∈ jj_G := jj_t7 (List.mem_of_getElem? (i := 197) (by decide +kernel)) rfl
theorem jn_X11_isRate : jj_N yX11_isRate 1 := by unfold jj_N; decide +kernel
theorem jw_422 : Cond.code yX11_isTooMuch cX11_isTooMuch 6 (some .boolean) ∈ jj_G := jj_t7 (List.mem_of_getElem? (i := 204) (by decide +kernel)) rfl
theorem jw_423 : Cond.methodLink RX11 254 yX11_isTooMuch ∈ jj_G := jj_t7 (List.mem_of_getElem? (i := 201) (by decide +kernel)) rfl
theorem jw_424 : Cond.instanceMethod yX11_isTooMuch ∈ jj_G := jj_t7 (List.mem_of_getElem? (i := 203) (by decide +kernel)) rfl
theorem jw_425 : Cond.selects RX11 yX11_isTooMuch yX11_isTooMuch ∈ jj_G := jj_pv (q := (yX11_isTooMuch, 25)) (by decide +kernel)
theorem jn_X11_isTooMuch : jj_N yX11_isTooMuch 1 := by unfold jj_N; decide +kernel
theorem jw_427 : Cond.code yX11_gain cX11_gain 8 (some .long) ∈ jj_G := jj_t7 (List.mem_of_getElem? (i := 211) (by decide +kernel)) rfl
theorem jw_428 : Cond.methodLink RX11 257 yX11_gain ∈ jj_G := jj_t7 (List.mem_of_getElem? (i := 208) (by decide +kernel)) rfl
theorem jw_429 : Cond.instanceMethod yX11_gain ∈ jj_G := jj_t7 (List.mem_of_getElem? (i := 210) (by decide +kernel)) rfl
theorem jw_430 : Cond.selects RX11 yX11_gain yX11_gain ∈ jj_G := jj_pv (q := (yX11_gain, 25)) (by decide +kernel)
theorem jn_X11_gain : jj_N yX11_gain 1 := by unfold jj_N; decide +kernel
theorem jw_432 : Cond.code yX11_earn cX11_earn 2 (some .long) ∈ jj_G := jj_t7 (List.mem_of_getElem? (i := 195) (by decide +kernel)) rfl
theorem jw_433 : Cond.code yX2_passingFault cX2_passingFault 1 (some .int) ∈ jj_G := jj_t4 (List.mem_of_getElem? (i := 61) (by decide +kernel)) rfl
theorem jw_434 : Cond.methodLink RX10 148 yX2_passingFault ∈ jj_G := jj_t5 (List.mem_of_getElem? (i := 106) (by decide +kernel)) rfl
theorem jw_435 : Cond.static yX2_passingFault ∈ jj_G := jj_t4 (List.mem_of_getElem? (i := 60) (by decide +kernel)) rfl
theorem jn_X2_passingFault : jj_N yX2_passingFault 1 := by unfold jj_N; decide +kernel
theorem jw_437 : Cond.fieldLink RX2 50 "SeriesFund$Book" "day" "I" ∈ jj_G := jj_t1 (List.mem_of_getElem? (i := 229) (by decide +kernel)) rfl
theorem jw_438 : Cond.code yX2_chargeDays cX2_chargeDays 8 (some .long) ∈ jj_G := jj_t4 (List.mem_of_getElem? (i := 69) (by decide +kernel)) rfl
theorem jw_439 : Cond.methodLink RX10 152 yX2_chargeDays ∈ jj_G := jj_t5 (List.mem_of_getElem? (i := 107) (by decide +kernel)) rfl
theorem jw_440 : Cond.static yX2_chargeDays ∈ jj_G := jj_t4 (List.mem_of_getElem? (i := 68) (by decide +kernel)) rfl
theorem jn_X2_chargeDays : jj_N yX2_chargeDays 2 := by unfold jj_N; decide +kernel
theorem jw_442 : Cond.code yX10_passDays cX10_passDays 2 (some .long) ∈ jj_G := jj_t5 (List.mem_of_getElem? (i := 105) (by decide +kernel)) rfl
theorem jw_443 : Cond.constantLong RX11 262 (400) ∈ jj_G := jj_t7 (List.mem_of_getElem? (i := 216) (by decide +kernel)) rfl
theorem jw_444 : Cond.code yX11_goDays cX11_goDays 8 (some .long) ∈ jj_G := jj_t7 (List.mem_of_getElem? (i := 220) (by decide +kernel)) rfl
theorem jw_445 : Cond.methodLink RX11 264 yX11_goDays ∈ jj_G := jj_t7 (List.mem_of_getElem? (i := 217) (by decide +kernel)) rfl
theorem jw_446 : Cond.instanceMethod yX11_goDays ∈ jj_G := jj_t7 (List.mem_of_getElem? (i := 219) (by decide +kernel)) rfl
theorem jw_447 : Cond.selects RX11 yX11_goDays yX11_goDays ∈ jj_G := jj_pv (q := (yX11_goDays, 25)) (by decide +kernel)
theorem jn_X11_goDays : jj_N yX11_goDays 1 := by unfold jj_N; decide +kernel
theorem jw_449 : Cond.code yX11_passDays cX11_passDays 2 (some .long) ∈ jj_G := jj_t7 (List.mem_of_getElem? (i := 215) (by decide +kernel)) rfl
theorem jw_450 : Cond.code yX0_transferFault cX0_transferFault 4 (some .int) ∈ jj_G := jj_t5 (List.mem_of_getElem? (i := 118) (by decide +kernel)) rfl
theorem jw_451 : Cond.methodLink RX10 162 yX0_transferFault ∈ jj_G := jj_t5 (List.mem_of_getElem? (i := 115) (by decide +kernel)) rfl
theorem jw_452 : Cond.instanceMethod yX0_transferFault ∈ jj_G := jj_t5 (List.mem_of_getElem? (i := 116) (by decide +kernel)) rfl
theorem jw_453 : Cond.selects RX0 yX0_transferFault yX0_transferFault ∈ jj_G := jj_t5 (List.mem_of_getElem? (i := 117) (by decide +kernel)) rfl
theorem jn_X0_transferFault : jj_N yX0_transferFault 3 := by unfold jj_N; decide +kernel
theorem jw_455 : Cond.code yX0_moveUnits cX0_moveUnits 12 none ∈ jj_G := jj_t5 (List.mem_of_getElem? (i := 126) (by decide +kernel)) rfl
theorem jw_456 : Cond.methodLink RX10 166 yX0_moveUnits ∈ jj_G := jj_t5 (List.mem_of_getElem? (i := 123) (by decide +kernel)) rfl
theorem jw_457 : Cond.instanceMethod yX0_moveUnits ∈ jj_G := jj_t5 (List.mem_of_getElem? (i := 124) (by decide +kernel)) rfl
theorem jw_458 : Cond.selects RX0 yX0_moveUnits yX0_moveUnits ∈ jj_G := jj_t5 (List.mem_of_getElem? (i := 125) (by decide +kernel)) rfl
theorem jn_X0_moveUnits : jj_N yX0_moveUnits 3 := by unfold jj_N; decide +kernel
theorem jw_460 : Cond.methodLink RX10 170 yX0_unitsHeldBy ∈ jj_G := jj_t5 (List.mem_of_getElem? (i := 133) (by decide +kernel)) rfl
theorem jw_461 : Cond.code yX10_transfer cX10_transfer 4 (some .long) ∈ jj_G := jj_t5 (List.mem_of_getElem? (i := 114) (by decide +kernel)) rfl
theorem jw_462 : Cond.constantLong RX11 181 (40) ∈ jj_G := jj_t7 (List.mem_of_getElem? (i := 129) (by decide +kernel)) rfl
theorem jw_463 : Cond.code yX11_cannotMove cX11_cannotMove 3 (some .boolean) ∈ jj_G := jj_t8 (List.mem_of_getElem? (i := 25) (by decide +kernel)) rfl
theorem jw_464 : Cond.methodLink RX11 294 yX11_cannotMove ∈ jj_G := jj_t8 (List.mem_of_getElem? (i := 22) (by decide +kernel)) rfl
theorem jw_465 : Cond.instanceMethod yX11_cannotMove ∈ jj_G := jj_t8 (List.mem_of_getElem? (i := 24) (by decide +kernel)) rfl
theorem jw_466 : Cond.selects RX11 yX11_cannotMove yX11_cannotMove ∈ jj_G := jj_pv (q := (yX11_cannotMove, 25)) (by decide +kernel)
theorem jn_X11_cannotMove : jj_N yX11_cannotMove 2 := by unfold jj_N; decide +kernel
theorem jw_468 : Cond.code yX11_transfer cX11_transfer 11 (some .long) ∈ jj_G := jj_t8 (List.mem_of_getElem? (i := 21) (by decide +kernel)) rfl
theorem jw_469 : Cond.fieldLink RX10 176 "SeriesFund$Book" "gate" "I" ∈ jj_G := jj_t1 (List.mem_of_getElem? (i := 226) (by decide +kernel)) rfl
theorem jw_470 : Cond.code yX10_setGate cX10_setGate 3 (some .int) ∈ jj_G := jj_t5 (List.mem_of_getElem? (i := 140) (by decide +kernel)) rfl
theorem jw_471 : Cond.code yX11_setGate cX11_setGate 3 (some .int) ∈ jj_G := jj_t8 (List.mem_of_getElem? (i := 37) (by decide +kernel)) rfl
theorem jw_472 : Cond.fieldLink RX10 212 "SeriesFund$Book" "investors" "I" ∈ jj_G := jj_t1 (List.mem_of_getElem? (i := 208) (by decide +kernel)) rfl
theorem jw_473 : Cond.fieldLink RX10 215 "SeriesFund$Book" "method" "I" ∈ jj_G := jj_t1 (List.mem_of_getElem? (i := 213) (by decide +kernel)) rfl
theorem jw_474 : Cond.fieldLink RX10 218 "SeriesFund$Book" "managementRate" "I" ∈ jj_G := jj_t1 (List.mem_of_getElem? (i := 217) (by decide +kernel)) rfl
theorem jw_475 : Cond.fieldLink RX10 221 "SeriesFund$Book" "performanceFee" "I" ∈ jj_G := jj_t1 (List.mem_of_getElem? (i := 223) (by decide +kernel)) rfl
theorem jw_476 : Cond.fieldLink RX10 224 "SeriesFund$Book" "day" "I" ∈ jj_G := jj_t1 (List.mem_of_getElem? (i := 230) (by decide +kernel)) rfl
theorem jw_477 : Cond.fieldLink RX10 227 "SeriesFund$Book" "seriesCount" "I" ∈ jj_G := jj_t1 (List.mem_of_getElem? (i := 237) (by decide +kernel)) rfl
theorem jw_478 : Cond.fieldLink RX10 230 "SeriesFund$Book" "lotCount" "I" ∈ jj_G := jj_t2 (List.mem_of_getElem? (i := 1) (by decide +kernel)) rfl
theorem jw_479 : Cond.fieldLink RX10 233 "SeriesFund$Book" "opened" "I" ∈ jj_G := jj_t1 (List.mem_of_getElem? (i := 232) (by decide +kernel)) rfl
theorem jw_480 : Cond.code yX10_count cX10_count 2 (some .int) ∈ jj_G := jj_t5 (List.mem_of_getElem? (i := 148) (by decide +kernel)) rfl
theorem jw_481 : Cond.constantLong RX11 424 (9) ∈ jj_G := jj_t8 (List.mem_of_getElem? (i := 153) (by decide +kernel)) rfl
theorem jw_482 : Cond.code yX11_count cX11_count 2 (some .int) ∈ jj_G := jj_t8 (List.mem_of_getElem? (i := 152) (by decide +kernel)) rfl
theorem jw_483 : Cond.fieldLink RX10 244 "SeriesFund$Book" "accounts" "[J" ∈ jj_G := jj_t2 (List.mem_of_getElem? (i := 8) (by decide +kernel)) rfl
theorem jw_484 : Cond.code yX10_account cX10_account 2 (some .long) ∈ jj_G := jj_t5 (List.mem_of_getElem? (i := 156) (by decide +kernel)) rfl
theorem jw_485 : Cond.constantLong RX11 416 (5) ∈ jj_G := jj_t8 (List.mem_of_getElem? (i := 135) (by decide +kernel)) rfl
theorem jw_486 : Cond.code yX11_account cX11_account 2 (some .long) ∈ jj_G := jj_t8 (List.mem_of_getElem? (i := 161) (by decide +kernel)) rfl
theorem jw_487 : Cond.code yX10_openSeries cX10_openSeries 2 (some .int) ∈ jj_G := jj_t5 (List.mem_of_getElem? (i := 164) (by decide +kernel)) rfl
theorem jw_488 : Cond.code yX11_openSeries cX11_openSeries 2 (some .int) ∈ jj_G := jj_t8 (List.mem_of_getElem? (i := 165) (by decide +kernel)) rfl
theorem jw_489 : Cond.fieldLink RX10 250 "SeriesFund$Book" "series" "[LSeriesFund$Series;" ∈ jj_G := jj_t2 (List.mem_of_getElem? (i := 13) (by decide +kernel)) rfl
theorem jw_490 : Cond.code yX0_placeOfSeries cX0_placeOfSeries 3 (some .int) ∈ jj_G := jj_t3 (List.mem_of_getElem? (i := 62) (by decide +kernel)) rfl
theorem jw_491 : Cond.methodLink RX10 209 yX0_placeOfSeries ∈ jj_G := jj_t5 (List.mem_of_getElem? (i := 177) (by decide +kernel)) rfl
theorem jw_492 : Cond.instanceMethod yX0_placeOfSeries ∈ jj_G := jj_t3 (List.mem_of_getElem? (i := 60) (by decide +kernel)) rfl
theorem jw_493 : Cond.selects RX0 yX0_placeOfSeries yX0_placeOfSeries ∈ jj_G := jj_t3 (List.mem_of_getElem? (i := 61) (by decide +kernel)) rfl
theorem jn_X0_placeOfSeries : jj_N yX0_placeOfSeries 1 := by unfold jj_N; decide +kernel
theorem jw_495 : Cond.code yX10_placeOf cX10_placeOf 3 (some .int) ∈ jj_G := jj_t5 (List.mem_of_getElem? (i := 176) (by decide +kernel)) rfl
theorem jw_496 : Cond.methodLink RX10 259 yX10_placeOf ∈ jj_G := jj_t5 (List.mem_of_getElem? (i := 173) (by decide +kernel)) rfl
theorem jw_497 : Cond.instanceMethod yX10_placeOf ∈ jj_G := jj_t5 (List.mem_of_getElem? (i := 175) (by decide +kernel)) rfl
theorem jw_498 : Cond.selects RX10 yX10_placeOf yX10_placeOf ∈ jj_G := jj_pv (q := (yX10_placeOf, 10)) (by decide +kernel)
theorem jn_X10_placeOf : jj_N yX10_placeOf 1 := by unfold jj_N; decide +kernel
theorem jw_500 : Cond.code yX10_seriesValue cX10_seriesValue 4 (some .long) ∈ jj_G := jj_t5 (List.mem_of_getElem? (i := 172) (by decide +kernel)) rfl
theorem jw_501 : Cond.code yX11_placeOf cX11_placeOf 4 (some .int) ∈ jj_G := jj_t7 (List.mem_of_getElem? (i := 64) (by decide +kernel)) rfl
theorem jw_502 : Cond.methodLink RX11 90 yX11_placeOf ∈ jj_G := jj_t7 (List.mem_of_getElem? (i := 61) (by decide +kernel)) rfl
theorem jw_503 : Cond.instanceMethod yX11_placeOf ∈ jj_G := jj_t7 (List.mem_of_getElem? (i := 63) (by decide +kernel)) rfl
theorem jw_504 : Cond.selects RX11 yX11_placeOf yX11_placeOf ∈ jj_G := jj_pv (q := (yX11_placeOf, 25)) (by decide +kernel)
theorem jn_X11_placeOf : jj_N yX11_placeOf 1 := by unfold jj_N; decide +kernel
theorem jw_506 : Cond.code yX11_seriesValue cX11_seriesValue 4 (some .long) ∈ jj_G := jj_t8 (List.mem_of_getElem? (i := 169) (by decide +kernel)) rfl
theorem jw_507 : Cond.code yX10_lot cX10_lot 4 (some .long) ∈ jj_G := jj_t5 (List.mem_of_getElem? (i := 192) (by decide +kernel)) rfl
theorem jw_508 : Cond.code yX11_lot cX11_lot 3 (some .long) ∈ jj_G := jj_t8 (List.mem_of_getElem? (i := 178) (by decide +kernel)) rfl
theorem jw_509 : Cond.code yX10_request cX10_request 4 (some .long) ∈ jj_G := jj_t5 (List.mem_of_getElem? (i := 200) (by decide +kernel)) rfl
theorem jw_510 : Cond.code yX11_request cX11_request 3 (some .long) ∈ jj_G := jj_t8 (List.mem_of_getElem? (i := 182) (by decide +kernel)) rfl
theorem jw_511 : Cond.methodLink RX10 205 yX0_hasInvestor ∈ jj_G := jj_t5 (List.mem_of_getElem? (i := 212) (by decide +kernel)) rfl
theorem jw_512 : Cond.code yX10_checkInvestor cX10_checkInvestor 2 none ∈ jj_G := jj_t5 (List.mem_of_getElem? (i := 211) (by decide +kernel)) rfl
theorem jw_513 : Cond.methodLink RX10 315 yX10_checkInvestor ∈ jj_G := jj_t5 (List.mem_of_getElem? (i := 208) (by decide +kernel)) rfl
theorem jw_514 : Cond.instanceMethod yX10_checkInvestor ∈ jj_G := jj_t5 (List.mem_of_getElem? (i := 210) (by decide +kernel)) rfl
theorem jw_515 : Cond.selects RX10 yX10_checkInvestor yX10_checkInvestor ∈ jj_G := jj_pv (q := (yX10_checkInvestor, 10)) (by decide +kernel)
theorem jn_X10_checkInvestor : jj_N yX10_checkInvestor 1 := by unfold jj_N; decide +kernel
theorem jw_517 : Cond.code yX10_unitsOf cX10_unitsOf 2 (some .long) ∈ jj_G := jj_t5 (List.mem_of_getElem? (i := 207) (by decide +kernel)) rfl
theorem jw_518 : Cond.code yX11_unitsOf cX11_unitsOf 2 (some .long) ∈ jj_G := jj_t8 (List.mem_of_getElem? (i := 186) (by decide +kernel)) rfl
theorem jw_519 : Cond.code yX10_holding cX10_holding 3 (some .long) ∈ jj_G := jj_t5 (List.mem_of_getElem? (i := 219) (by decide +kernel)) rfl
theorem jw_520 : Cond.code yX11_holding cX11_holding 3 (some .long) ∈ jj_G := jj_t8 (List.mem_of_getElem? (i := 190) (by decide +kernel)) rfl
theorem jw_521 : Cond.fieldLink RX1 97 "SeriesFund$Book" "seriesCount" "I" ∈ jj_G := jj_t1 (List.mem_of_getElem? (i := 236) (by decide +kernel)) rfl
theorem jw_522 : Cond.code yX1_resetTrial cX1_resetTrial 4 none ∈ jj_G := jj_t3 (List.mem_of_getElem? (i := 45) (by decide +kernel)) rfl
theorem jw_523 : Cond.methodLink RX1 87 yX1_resetTrial ∈ jj_G := jj_t3 (List.mem_of_getElem? (i := 42) (by decide +kernel)) rfl
theorem jw_524 : Cond.instanceMethod yX1_resetTrial ∈ jj_G := jj_t3 (List.mem_of_getElem? (i := 44) (by decide +kernel)) rfl
theorem jw_525 : Cond.selects RX1 yX1_resetTrial yX1_resetTrial ∈ jj_G := jj_pv (q := (yX1_resetTrial, 6)) (by decide +kernel)
theorem jn_X1_resetTrial : jj_N yX1_resetTrial 2 := by unfold jj_N; decide +kernel
theorem jw_527 : Cond.constantLong RX1 95 (9223372036854775807) ∈ jj_G := jj_t5 (List.mem_of_getElem? (i := 232) (by decide +kernel)) rfl
theorem jw_528 : Cond.fieldLink RX1 113 "SeriesFund$Book" "lotCount" "I" ∈ jj_G := jj_t1 (List.mem_of_getElem? (i := 239) (by decide +kernel)) rfl
theorem jw_529 : Cond.code yX1_tryRedemption cX1_tryRedemption 15 (some .long) ∈ jj_G := jj_t3 (List.mem_of_getElem? (i := 58) (by decide +kernel)) rfl
theorem jw_530 : Cond.methodLink RX1 91 yX1_tryRedemption ∈ jj_G := jj_t3 (List.mem_of_getElem? (i := 55) (by decide +kernel)) rfl
theorem jw_531 : Cond.instanceMethod yX1_tryRedemption ∈ jj_G := jj_t3 (List.mem_of_getElem? (i := 57) (by decide +kernel)) rfl
theorem jw_532 : Cond.selects RX1 yX1_tryRedemption yX1_tryRedemption ∈ jj_G := jj_pv (q := (yX1_tryRedemption, 6)) (by decide +kernel)
theorem jn_X1_tryRedemption : jj_N yX1_tryRedemption 4 := by unfold jj_N; decide +kernel
theorem jw_534 : Cond.code yX1_payAfterRate cX1_payAfterRate 4 (some .long) ∈ jj_G := jj_t5 (List.mem_of_getElem? (i := 231) (by decide +kernel)) rfl
theorem jw_535 : Cond.methodLink RX10 322 yX1_payAfterRate ∈ jj_G := jj_t5 (List.mem_of_getElem? (i := 228) (by decide +kernel)) rfl
theorem jw_536 : Cond.instanceMethod yX1_payAfterRate ∈ jj_G := jj_t5 (List.mem_of_getElem? (i := 229) (by decide +kernel)) rfl
theorem jw_537 : Cond.selects RX1 yX1_payAfterRate yX1_payAfterRate ∈ jj_G := jj_t5 (List.mem_of_getElem? (i := 230) (by decide +kernel)) rfl
theorem jn_X1_payAfterRate : jj_N yX1_payAfterRate 3 := by unfold jj_N; decide +kernel
theorem jw_539 : Cond.code yX10_valueOf cX10_valueOf 2 (some .long) ∈ jj_G := jj_t5 (List.mem_of_getElem? (i := 227) (by decide +kernel)) rfl
theorem jw_540 : Cond.fieldLink RX11 140 "SeriesFundModel" "payments" "J" ∈ jj_G := jj_t6 (List.mem_of_getElem? (i := 163) (by decide +kernel)) rfl
theorem jw_541 : Cond.code yX11_dropEmptyLots cX11_dropEmptyLots 2 none ∈ jj_G := jj_t7 (List.mem_of_getElem? (i := 91) (by decide +kernel)) rfl
theorem jw_542 : Cond.methodLink RX11 147 yX11_dropEmptyLots ∈ jj_G := jj_t7 (List.mem_of_getElem? (i := 88) (by decide +kernel)) rfl
theorem jw_543 : Cond.instanceMethod yX11_dropEmptyLots ∈ jj_G := jj_t7 (List.mem_of_getElem? (i := 90) (by decide +kernel)) rfl
theorem jw_544 : Cond.selects RX11 yX11_dropEmptyLots yX11_dropEmptyLots ∈ jj_G := jj_pv (q := (yX11_dropEmptyLots, 25)) (by decide +kernel)
theorem jn_X11_dropEmptyLots : jj_N yX11_dropEmptyLots 0 := by unfold jj_N; decide +kernel
theorem jw_546 : Cond.code yX11_closeEmpty cX11_closeEmpty 3 none ∈ jj_G := jj_t7 (List.mem_of_getElem? (i := 99) (by decide +kernel)) rfl
theorem jw_547 : Cond.methodLink RX11 150 yX11_closeEmpty ∈ jj_G := jj_t7 (List.mem_of_getElem? (i := 96) (by decide +kernel)) rfl
theorem jw_548 : Cond.instanceMethod yX11_closeEmpty ∈ jj_G := jj_t7 (List.mem_of_getElem? (i := 98) (by decide +kernel)) rfl
theorem jw_549 : Cond.selects RX11 yX11_closeEmpty yX11_closeEmpty ∈ jj_G := jj_pv (q := (yX11_closeEmpty, 25)) (by decide +kernel)
theorem jn_X11_closeEmpty : jj_N yX11_closeEmpty 0 := by unfold jj_N; decide +kernel
theorem jw_551 : Cond.code yX11_redeemFrom cX11_redeemFrom 10 (some .long) ∈ jj_G := jj_t7 (List.mem_of_getElem? (i := 48) (by decide +kernel)) rfl
theorem jw_552 : Cond.methodLink RX11 156 yX11_redeemFrom ∈ jj_G := jj_t7 (List.mem_of_getElem? (i := 45) (by decide +kernel)) rfl
theorem jw_553 : Cond.instanceMethod yX11_redeemFrom ∈ jj_G := jj_t7 (List.mem_of_getElem? (i := 47) (by decide +kernel)) rfl
theorem jw_554 : Cond.selects RX11 yX11_redeemFrom yX11_redeemFrom ∈ jj_G := jj_pv (q := (yX11_redeemFrom, 25)) (by decide +kernel)
theorem jn_X11_redeemFrom : jj_N yX11_redeemFrom 2 := by unfold jj_N; decide +kernel
theorem jw_556 : Cond.code yX11_worthOf cX11_worthOf 4 (some .long) ∈ jj_G := jj_t8 (List.mem_of_getElem? (i := 202) (by decide +kernel)) rfl
theorem jw_557 : Cond.methodLink RX11 434 yX11_worthOf ∈ jj_G := jj_t8 (List.mem_of_getElem? (i := 199) (by decide +kernel)) rfl
theorem jw_558 : Cond.instanceMethod yX11_worthOf ∈ jj_G := jj_t8 (List.mem_of_getElem? (i := 201) (by decide +kernel)) rfl
theorem jw_559 : Cond.selects RX11 yX11_worthOf yX11_worthOf ∈ jj_G := jj_pv (q := (yX11_worthOf, 25)) (by decide +kernel)
theorem jn_X11_worthOf : jj_N yX11_worthOf 1 := by unfold jj_N; decide +kernel
theorem jw_561 : Cond.code yX11_valueOf cX11_valueOf 2 (some .long) ∈ jj_G := jj_t8 (List.mem_of_getElem? (i := 198) (by decide +kernel)) rfl
theorem jw_562 : Cond.code yX10_placeInRanking cX10_placeInRanking 8 (some .int) ∈ jj_G := jj_t6 (List.mem_of_getElem? (i := 3) (by decide +kernel)) rfl
theorem jw_563 : Cond.methodLink RX10 326 yX10_placeInRanking ∈ jj_G := jj_t6 (List.mem_of_getElem? (i := 0) (by decide +kernel)) rfl
theorem jw_564 : Cond.instanceMethod yX10_placeInRanking ∈ jj_G := jj_t6 (List.mem_of_getElem? (i := 2) (by decide +kernel)) rfl
theorem jw_565 : Cond.selects RX10 yX10_placeInRanking yX10_placeInRanking ∈ jj_G := jj_pv (q := (yX10_placeInRanking, 10)) (by decide +kernel)
theorem jn_X10_placeInRanking : jj_N yX10_placeInRanking 1 := by unfold jj_N; decide +kernel
theorem jw_567 : Cond.code yX10_richest cX10_richest 3 (some .int) ∈ jj_G := jj_t5 (List.mem_of_getElem? (i := 239) (by decide +kernel)) rfl
theorem jw_568 : Cond.code yX11_richest cX11_richest 9 (some .int) ∈ jj_G := jj_t8 (List.mem_of_getElem? (i := 206) (by decide +kernel)) rfl
theorem jt_RX10_333 : jj_T RX10 333 "java/lang/ArithmeticException" ["java/lang/RuntimeException", "java/lang/Exception"] := ⟨by decide +kernel, by decide +kernel, by decide +kernel, by decide +kernel, by decide +kernel, by decide +kernel⟩
theorem jw_570 : Cond.classLink RX10 329 "java/lang/ArithmeticException" ∈ jj_G := jj_t6 (List.mem_of_getElem? (i := 25) (by decide +kernel)) rfl
theorem jw_571 : Cond.code yX10_share cX10_share 5 (some .double) ∈ jj_G := jj_t6 (List.mem_of_getElem? (i := 24) (by decide +kernel)) rfl
theorem jw_572 : Cond.code yX11_share cX11_share 5 (some .double) ∈ jj_G := jj_t8 (List.mem_of_getElem? (i := 210) (by decide +kernel)) rfl
theorem jw_573 : Cond.code yX10_wouldRedeem cX10_wouldRedeem 2 (some .long) ∈ jj_G := jj_t6 (List.mem_of_getElem? (i := 34) (by decide +kernel)) rfl
theorem jw_574 : Cond.code yX11_wouldRedeem cX11_wouldRedeem 2 (some .long) ∈ jj_G := jj_t8 (List.mem_of_getElem? (i := 222) (by decide +kernel)) rfl
theorem jw_575 : Cond.code yX10_dealsUntilDone cX10_dealsUntilDone 4 (some .int) ∈ jj_G := jj_t6 (List.mem_of_getElem? (i := 42) (by decide +kernel)) rfl
theorem jw_576 : Cond.code yX11_dealsUntilDone cX11_dealsUntilDone 4 (some .int) ∈ jj_G := jj_t8 (List.mem_of_getElem? (i := 226) (by decide +kernel)) rfl
theorem jw_577 : Cond.code yX10_feesIf cX10_feesIf 5 (some .long) ∈ jj_G := jj_t6 (List.mem_of_getElem? (i := 59) (by decide +kernel)) rfl
theorem jw_578 : Cond.code yX11_accruedAll cX11_accruedAll 4 (some .long) ∈ jj_G := jj_t8 (List.mem_of_getElem? (i := 238) (by decide +kernel)) rfl
theorem jw_579 : Cond.methodLink RX11 440 yX11_accruedAll ∈ jj_G := jj_t8 (List.mem_of_getElem? (i := 235) (by decide +kernel)) rfl
theorem jw_580 : Cond.instanceMethod yX11_accruedAll ∈ jj_G := jj_t8 (List.mem_of_getElem? (i := 237) (by decide +kernel)) rfl
theorem jw_581 : Cond.selects RX11 yX11_accruedAll yX11_accruedAll ∈ jj_G := jj_pv (q := (yX11_accruedAll, 25)) (by decide +kernel)
theorem jn_X11_accruedAll : jj_N yX11_accruedAll 0 := by unfold jj_N; decide +kernel
theorem jw_583 : Cond.code yX11_feesIf cX11_feesIf 6 (some .long) ∈ jj_G := jj_t8 (List.mem_of_getElem? (i := 234) (by decide +kernel)) rfl
theorem jw_584 : Cond.code yX10_breakEven cX10_breakEven 7 (some .int) ∈ jj_G := jj_t6 (List.mem_of_getElem? (i := 68) (by decide +kernel)) rfl
theorem jw_585 : Cond.code yX11_breakEven cX11_breakEven 6 (some .int) ∈ jj_G := jj_t9 (List.mem_of_getElem? (i := 2) (by decide +kernel)) rfl
theorem jw_586 : Cond.code yX0_fallOfPay cX0_fallOfPay 5 (some .long) ∈ jj_G := jj_t6 (List.mem_of_getElem? (i := 104) (by decide +kernel)) rfl
theorem jw_587 : Cond.methodLink RX10 385 yX0_fallOfPay ∈ jj_G := jj_t6 (List.mem_of_getElem? (i := 101) (by decide +kernel)) rfl
theorem jw_588 : Cond.instanceMethod yX0_fallOfPay ∈ jj_G := jj_t6 (List.mem_of_getElem? (i := 102) (by decide +kernel)) rfl
theorem jw_589 : Cond.selects RX0 yX0_fallOfPay yX0_fallOfPay ∈ jj_G := jj_t6 (List.mem_of_getElem? (i := 103) (by decide +kernel)) rfl
theorem jn_X0_fallOfPay : jj_N yX0_fallOfPay 1 := by unfold jj_N; decide +kernel
theorem jw_591 : Cond.code yJ9_floorDiv_7cf53 cJ9_floorDiv_7cf53 3 (some .int) ∈ jj_G := jj_t6 (List.mem_of_getElem? (i := 89) (by decide +kernel)) rfl
theorem jw_592 : Cond.methodLink RX10 374 yJ9_floorDiv_7cf53 ∈ jj_G := jj_t6 (List.mem_of_getElem? (i := 87) (by decide +kernel)) rfl
theorem jw_593 : Cond.static yJ9_floorDiv_7cf53 ∈ jj_G := jj_t6 (List.mem_of_getElem? (i := 88) (by decide +kernel)) rfl
theorem jn_J9_floorDiv_7cf53 : jj_N yJ9_floorDiv_7cf53 2 := by unfold jj_N; decide +kernel
theorem jw_595 : Cond.code yX10_firstRateInReach cX10_firstRateInReach 10 (some .int) ∈ jj_G := jj_t6 (List.mem_of_getElem? (i := 100) (by decide +kernel)) rfl
theorem jw_596 : Cond.methodLink RX10 379 yX10_firstRateInReach ∈ jj_G := jj_t6 (List.mem_of_getElem? (i := 97) (by decide +kernel)) rfl
theorem jw_597 : Cond.instanceMethod yX10_firstRateInReach ∈ jj_G := jj_t6 (List.mem_of_getElem? (i := 99) (by decide +kernel)) rfl
theorem jw_598 : Cond.selects RX10 yX10_firstRateInReach yX10_firstRateInReach ∈ jj_G := jj_pv (q := (yX10_firstRateInReach, 10)) (by decide +kernel)
theorem jn_X10_firstRateInReach : jj_N yX10_firstRateInReach 2 := by unfold jj_N; decide +kernel
theorem jt_RX10_373 : jj_TX RX10 373 "java/util/NoSuchElementException" 13 prog_31_method_4_code ["java/lang/RuntimeException", "java/lang/Exception"] := ⟨by decide +kernel, by decide +kernel, by decide +kernel, by decide +kernel, by decide +kernel, by decide +kernel, by decide +kernel, by decide +kernel, by decide +kernel, by decide +kernel⟩
theorem jw_601 : Cond.classLink RX10 369 "java/util/NoSuchElementException" ∈ jj_G := jj_t6 (List.mem_of_getElem? (i := 71) (by decide +kernel)) rfl
theorem jw_602 : Cond.code yX10_rateFor cX10_rateFor 5 (some .int) ∈ jj_G := jj_t6 (List.mem_of_getElem? (i := 96) (by decide +kernel)) rfl
theorem jw_603 : Cond.code yX11_worthBy cX11_worthBy 6 (some .long) ∈ jj_G := jj_t9 (List.mem_of_getElem? (i := 10) (by decide +kernel)) rfl
theorem jw_604 : Cond.methodLink RX11 446 yX11_worthBy ∈ jj_G := jj_t9 (List.mem_of_getElem? (i := 7) (by decide +kernel)) rfl
theorem jw_605 : Cond.instanceMethod yX11_worthBy ∈ jj_G := jj_t9 (List.mem_of_getElem? (i := 9) (by decide +kernel)) rfl
theorem jw_606 : Cond.selects RX11 yX11_worthBy yX11_worthBy ∈ jj_G := jj_pv (q := (yX11_worthBy, 25)) (by decide +kernel)
theorem jn_X11_worthBy : jj_N yX11_worthBy 2 := by unfold jj_N; decide +kernel
theorem jw_608 : Cond.code yX11_rateFor cX11_rateFor 5 (some .int) ∈ jj_G := jj_t9 (List.mem_of_getElem? (i := 6) (by decide +kernel)) rfl
theorem jw_609 : Cond.code yX0_netOfAll cX0_netOfAll 4 (some .long) ∈ jj_G := jj_t3 (List.mem_of_getElem? (i := 96) (by decide +kernel)) rfl
theorem jw_610 : Cond.methodLink RX10 238 yX0_netOfAll ∈ jj_G := jj_t4 (List.mem_of_getElem? (i := 77) (by decide +kernel)) rfl
theorem jw_611 : Cond.instanceMethod yX0_netOfAll ∈ jj_G := jj_t3 (List.mem_of_getElem? (i := 94) (by decide +kernel)) rfl
theorem jw_612 : Cond.selects RX0 yX0_netOfAll yX0_netOfAll ∈ jj_G := jj_t3 (List.mem_of_getElem? (i := 95) (by decide +kernel)) rfl
theorem jn_X0_netOfAll : jj_N yX0_netOfAll 0 := by unfold jj_N; decide +kernel
theorem jw_614 : Cond.code yX10_daysUntil cX10_daysUntil 4 (some .int) ∈ jj_G := jj_t6 (List.mem_of_getElem? (i := 119) (by decide +kernel)) rfl
theorem jw_615 : Cond.code yX11_netAll cX11_netAll 4 (some .long) ∈ jj_G := jj_t7 (List.mem_of_getElem? (i := 111) (by decide +kernel)) rfl
theorem jw_616 : Cond.methodLink RX11 169 yX11_netAll ∈ jj_G := jj_t7 (List.mem_of_getElem? (i := 108) (by decide +kernel)) rfl
theorem jw_617 : Cond.instanceMethod yX11_netAll ∈ jj_G := jj_t7 (List.mem_of_getElem? (i := 110) (by decide +kernel)) rfl
theorem jw_618 : Cond.selects RX11 yX11_netAll yX11_netAll ∈ jj_G := jj_pv (q := (yX11_netAll, 25)) (by decide +kernel)
theorem jn_X11_netAll : jj_N yX11_netAll 0 := by unfold jj_N; decide +kernel
theorem jw_620 : Cond.code yX11_daysUntil cX11_daysUntil 6 (some .int) ∈ jj_G := jj_t9 (List.mem_of_getElem? (i := 18) (by decide +kernel)) rfl
theorem jw_621 : Cond.code yX10_bestGate cX10_bestGate 5 (some .int) ∈ jj_G := jj_t6 (List.mem_of_getElem? (i := 127) (by decide +kernel)) rfl
theorem jw_622 : Cond.code yX11_bestGate cX11_bestGate 3 (some .int) ∈ jj_G := jj_t9 (List.mem_of_getElem? (i := 30) (by decide +kernel)) rfl
theorem jw_623 : Cond.fieldLink RX10 393 "SeriesFund$Report" "length" "I" ∈ jj_G := jj_t2 (List.mem_of_getElem? (i := 87) (by decide +kernel)) rfl
theorem jw_624 : Cond.code yX10_reportByte cX10_reportByte 2 (some .int) ∈ jj_G := jj_t6 (List.mem_of_getElem? (i := 134) (by decide +kernel)) rfl
theorem jw_625 : Cond.fieldLink RX11 450 "SeriesFundModel" "pageLength" "I" ∈ jj_G := jj_t6 (List.mem_of_getElem? (i := 178) (by decide +kernel)) rfl
theorem jw_626 : Cond.code yX11_reportByte cX11_reportByte 2 (some .int) ∈ jj_G := jj_t9 (List.mem_of_getElem? (i := 58) (by decide +kernel)) rfl
theorem jw_627 : Cond.code yX10_undo cX10_undo 1 (some .int) ∈ jj_G := jj_t6 (List.mem_of_getElem? (i := 142) (by decide +kernel)) rfl
theorem jw_628 : Cond.code yX11_undo cX11_undo 2 (some .int) ∈ jj_G := jj_t6 (List.mem_of_getElem? (i := 238) (by decide +kernel)) rfl
theorem jw_629 : Cond.code yX9_takeBuffer cX9_takeBuffer 1 none ∈ jj_G := jj_t2 (List.mem_of_getElem? (i := 135) (by decide +kernel)) rfl
theorem jw_630 : Cond.methodLink RX10 76 yX9_takeBuffer ∈ jj_G := jj_t2 (List.mem_of_getElem? (i := 132) (by decide +kernel)) rfl
theorem jw_631 : Cond.instanceMethod yX9_takeBuffer ∈ jj_G := jj_t2 (List.mem_of_getElem? (i := 133) (by decide +kernel)) rfl
theorem jw_632 : Cond.selects RX9 yX9_takeBuffer yX9_takeBuffer ∈ jj_G := jj_t2 (List.mem_of_getElem? (i := 134) (by decide +kernel)) rfl
theorem jn_X9_takeBuffer : jj_N yX9_takeBuffer 0 := by unfold jj_N; decide +kernel
theorem jw_635 : Cond.laysFinal RX3 "SeriesFund$FundText" "tokens" "LSeriesFund$Tokens;" ∈ jj_G := jj_t2 (List.mem_of_getElem? (i := 146) (by decide +kernel)) rfl
theorem jw_636 : Cond.laysFinal RX3 "SeriesFund$FundText" "book" "LSeriesFund$Book;" ∈ jj_G := jj_t2 (List.mem_of_getElem? (i := 148) (by decide +kernel)) rfl
theorem jw_637 : Cond.lays RX3 "SeriesFund$FundText" "code" "I" ∈ jj_G := jj_t2 (List.mem_of_getElem? (i := 150) (by decide +kernel)) rfl
theorem ju_4 : ∀ w ∈ u_ws RX3 TX3 3, w ∈ jj_G := by
  intro w hw
  obtain ⟨k, hk, rfl⟩ := List.mem_map.mp hw
  have hk := List.mem_range.mp hk
  match k, hk with
  | 0, _ => exact jw_635
  | 1, _ => exact jw_636
  | 2, _ => exact jw_637
  | n + 3, hk => exact absurd hk (by omega)
theorem jk_4 : jj_K 4 RX3 TX3 3 tyX3 := ⟨rfl, ju_4, tyX3_ok, nmX3⟩
theorem jd_4 : ∀ j, j < 3 → defaultValue (tyX3 j) = vp_V [.null, .null, .int 0] j := by
  intro j hj
  match j, hj with
  | 0, _ => rfl
  | 1, _ => rfl
  | 2, _ => rfl
  | n + 3, hj => exact absurd hj (by omega)
theorem jw_638 : Cond.classLink RX10 79 RX3 ∈ jj_G := jj_t2 (List.mem_of_getElem? (i := 136) (by decide +kernel)) rfl
theorem jw_639 : Cond.instantiable RX3 3 ∈ jj_G := jj_t2 (List.mem_of_getElem? (i := 137) (by decide +kernel)) rfl
theorem jw_640 : Cond.initialized RX3 ∈ jj_G := jj_t1 (List.mem_of_getElem? (i := 15) (by decide +kernel)) rfl
theorem jw_641 : Cond.methodLink RX3 3 objectInit ∈ jj_G := jj_t2 (List.mem_of_getElem? (i := 141) (by decide +kernel)) rfl
theorem jw_642 : Cond.fieldLink RX3 9 "SeriesFund$FundText" "code" "I" ∈ jj_G := jj_t2 (List.mem_of_getElem? (i := 144) (by decide +kernel)) rfl
theorem jw_643 : Cond.fieldLink RX3 15 "SeriesFund$FundText" "tokens" "LSeriesFund$Tokens;" ∈ jj_G := jj_t2 (List.mem_of_getElem? (i := 142) (by decide +kernel)) rfl
theorem jw_644 : Cond.fieldLink RX3 19 "SeriesFund$FundText" "book" "LSeriesFund$Book;" ∈ jj_G := jj_t2 (List.mem_of_getElem? (i := 143) (by decide +kernel)) rfl
theorem jw_645 : Cond.code yX3_init cX3_init 3 none ∈ jj_G := jj_t2 (List.mem_of_getElem? (i := 140) (by decide +kernel)) rfl
theorem jw_646 : Cond.methodLink RX10 81 yX3_init ∈ jj_G := jj_t2 (List.mem_of_getElem? (i := 138) (by decide +kernel)) rfl
theorem jw_647 : Cond.instanceMethod yX3_init ∈ jj_G := jj_t2 (List.mem_of_getElem? (i := 139) (by decide +kernel)) rfl
theorem jn_X3_init : jj_N yX3_init 2 := by unfold jj_N; decide +kernel
theorem jw_649 : Cond.code yX0_empty cX0_empty 2 none ∈ jj_G := jj_t2 (List.mem_of_getElem? (i := 160) (by decide +kernel)) rfl
theorem jw_650 : Cond.methodLink RX3 23 yX0_empty ∈ jj_G := jj_t2 (List.mem_of_getElem? (i := 157) (by decide +kernel)) rfl
theorem jw_651 : Cond.instanceMethod yX0_empty ∈ jj_G := jj_t2 (List.mem_of_getElem? (i := 158) (by decide +kernel)) rfl
theorem jw_652 : Cond.selects RX0 yX0_empty yX0_empty ∈ jj_G := jj_t2 (List.mem_of_getElem? (i := 159) (by decide +kernel)) rfl
theorem jn_X0_empty : jj_N yX0_empty 0 := by unfold jj_N; decide +kernel
theorem jw_654 : Cond.code yX9_advance cX9_advance 1 none ∈ jj_G := jj_t2 (List.mem_of_getElem? (i := 173) (by decide +kernel)) rfl
theorem jw_655 : Cond.methodLink RX3 68 yX9_advance ∈ jj_G := jj_t2 (List.mem_of_getElem? (i := 170) (by decide +kernel)) rfl
theorem jw_656 : Cond.instanceMethod yX9_advance ∈ jj_G := jj_t2 (List.mem_of_getElem? (i := 171) (by decide +kernel)) rfl
theorem jw_657 : Cond.selects RX9 yX9_advance yX9_advance ∈ jj_G := jj_t2 (List.mem_of_getElem? (i := 172) (by decide +kernel)) rfl
theorem jn_X9_advance : jj_N yX9_advance 0 := by unfold jj_N; decide +kernel
theorem jw_659 : Cond.code yX9_isWord cX9_isWord 3 (some .boolean) ∈ jj_G := jj_t2 (List.mem_of_getElem? (i := 185) (by decide +kernel)) rfl
theorem jw_660 : Cond.methodLink RX3 73 yX9_isWord ∈ jj_G := jj_t2 (List.mem_of_getElem? (i := 182) (by decide +kernel)) rfl
theorem jw_661 : Cond.instanceMethod yX9_isWord ∈ jj_G := jj_t2 (List.mem_of_getElem? (i := 183) (by decide +kernel)) rfl
theorem jw_662 : Cond.selects RX9 yX9_isWord yX9_isWord ∈ jj_G := jj_t2 (List.mem_of_getElem? (i := 184) (by decide +kernel)) rfl
theorem jn_X9_isWord : jj_N yX9_isWord 1 := by unfold jj_N; decide +kernel
theorem jw_664 : Cond.code yX3_accept cX3_accept 3 (some .boolean) ∈ jj_G := jj_t2 (List.mem_of_getElem? (i := 237) (by decide +kernel)) rfl
theorem jw_665 : Cond.methodLink RX3 81 yX3_accept ∈ jj_G := jj_t2 (List.mem_of_getElem? (i := 234) (by decide +kernel)) rfl
theorem jw_666 : Cond.instanceMethod yX3_accept ∈ jj_G := jj_t2 (List.mem_of_getElem? (i := 236) (by decide +kernel)) rfl
theorem jw_667 : Cond.selects RX3 yX3_accept yX3_accept ∈ jj_G := jj_pv (q := (yX3_accept, 3)) (by decide +kernel)
theorem jn_X3_accept : jj_N yX3_accept 2 := by unfold jj_N; decide +kernel
theorem jw_669 : Cond.code yX3_readWord cX3_readWord 2 (some .boolean) ∈ jj_G := jj_t2 (List.mem_of_getElem? (i := 169) (by decide +kernel)) rfl
theorem jw_670 : Cond.methodLink RX3 40 yX3_readWord ∈ jj_G := jj_t2 (List.mem_of_getElem? (i := 166) (by decide +kernel)) rfl
theorem jw_671 : Cond.instanceMethod yX3_readWord ∈ jj_G := jj_t2 (List.mem_of_getElem? (i := 168) (by decide +kernel)) rfl
theorem jw_672 : Cond.selects RX3 yX3_readWord yX3_readWord ∈ jj_G := jj_pv (q := (yX3_readWord, 3)) (by decide +kernel)
theorem jn_X3_readWord : jj_N yX3_readWord 1 := by unfold jj_N; decide +kernel
theorem jw_674 : Cond.code yX3_readFund cX3_readFund 1 (some .boolean) ∈ jj_G := jj_t2 (List.mem_of_getElem? (i := 164) (by decide +kernel)) rfl
theorem jw_675 : Cond.methodLink RX3 28 yX3_readFund ∈ jj_G := jj_t2 (List.mem_of_getElem? (i := 161) (by decide +kernel)) rfl
theorem jw_676 : Cond.instanceMethod yX3_readFund ∈ jj_G := jj_t2 (List.mem_of_getElem? (i := 163) (by decide +kernel)) rfl
theorem jw_677 : Cond.selects RX3 yX3_readFund yX3_readFund ∈ jj_G := jj_pv (q := (yX3_readFund, 3)) (by decide +kernel)
theorem jn_X3_readFund : jj_N yX3_readFund 0 := by unfold jj_N; decide +kernel
theorem jw_679 : Cond.code yX3_readAll cX3_readAll 1 (some .boolean) ∈ jj_G := jj_t2 (List.mem_of_getElem? (i := 156) (by decide +kernel)) rfl
theorem jw_680 : Cond.methodLink RX10 84 yX3_readAll ∈ jj_G := jj_t2 (List.mem_of_getElem? (i := 153) (by decide +kernel)) rfl
theorem jw_681 : Cond.instanceMethod yX3_readAll ∈ jj_G := jj_t2 (List.mem_of_getElem? (i := 154) (by decide +kernel)) rfl
theorem jw_682 : Cond.selects RX3 yX3_readAll yX3_readAll ∈ jj_G := jj_t2 (List.mem_of_getElem? (i := 155) (by decide +kernel)) rfl
theorem jn_X3_readAll : jj_N yX3_readAll 0 := by unfold jj_N; decide +kernel
theorem jw_684 : Cond.fieldLink RX10 88 "SeriesFund$FundText" "code" "I" ∈ jj_G := jj_t2 (List.mem_of_getElem? (i := 145) (by decide +kernel)) rfl
theorem jw_685 : Cond.fieldLink RX10 91 "SeriesFund$Tokens" "start" "I" ∈ jj_G := jj_t1 (List.mem_of_getElem? (i := 47) (by decide +kernel)) rfl
theorem jw_686 : Cond.code yX10_parseFund cX10_parseFund 3 (some .int) ∈ jj_G := jj_t2 (List.mem_of_getElem? (i := 131) (by decide +kernel)) rfl
theorem jw_687 : Cond.fieldLink RX11 307 "SeriesFundModel" "end" "I" ∈ jj_G := jj_t6 (List.mem_of_getElem? (i := 170) (by decide +kernel)) rfl
theorem jw_688 : Cond.fieldLink RX11 310 "SeriesFundModel" "to" "I" ∈ jj_G := jj_t6 (List.mem_of_getElem? (i := 169) (by decide +kernel)) rfl
theorem jw_689 : Cond.fieldLink RX11 327 "SeriesFundModel" "fault" "I" ∈ jj_G := jj_t6 (List.mem_of_getElem? (i := 171) (by decide +kernel)) rfl
theorem jw_690 : Cond.fieldLink RX11 313 "SeriesFundModel" "from" "I" ∈ jj_G := jj_t6 (List.mem_of_getElem? (i := 168) (by decide +kernel)) rfl
theorem jw_691 : Cond.code yX11_byteAt cX11_byteAt 2 (some .int) ∈ jj_G := jj_t8 (List.mem_of_getElem? (i := 65) (by decide +kernel)) rfl
theorem jw_692 : Cond.methodLink RX11 316 yX11_byteAt ∈ jj_G := jj_t8 (List.mem_of_getElem? (i := 62) (by decide +kernel)) rfl
theorem jw_693 : Cond.instanceMethod yX11_byteAt ∈ jj_G := jj_t8 (List.mem_of_getElem? (i := 64) (by decide +kernel)) rfl
theorem jw_694 : Cond.selects RX11 yX11_byteAt yX11_byteAt ∈ jj_G := jj_pv (q := (yX11_byteAt, 25)) (by decide +kernel)
theorem jn_X11_byteAt : jj_N yX11_byteAt 1 := by unfold jj_N; decide +kernel
theorem jw_696 : Cond.constantLong RX11 319 (97) ∈ jj_G := jj_t8 (List.mem_of_getElem? (i := 66) (by decide +kernel)) rfl
theorem jw_697 : Cond.constantLong RX11 321 (122) ∈ jj_G := jj_t8 (List.mem_of_getElem? (i := 67) (by decide +kernel)) rfl
theorem jw_698 : Cond.constantLong RX11 323 (48) ∈ jj_G := jj_t8 (List.mem_of_getElem? (i := 68) (by decide +kernel)) rfl
theorem jw_699 : Cond.constantLong RX11 325 (57) ∈ jj_G := jj_t8 (List.mem_of_getElem? (i := 69) (by decide +kernel)) rfl
theorem jw_700 : Cond.code yX11_next cX11_next 1 none ∈ jj_G := jj_t8 (List.mem_of_getElem? (i := 61) (by decide +kernel)) rfl
theorem jw_701 : Cond.methodLink RX11 338 yX11_next ∈ jj_G := jj_t8 (List.mem_of_getElem? (i := 58) (by decide +kernel)) rfl
theorem jw_702 : Cond.instanceMethod yX11_next ∈ jj_G := jj_t8 (List.mem_of_getElem? (i := 60) (by decide +kernel)) rfl
theorem jw_703 : Cond.selects RX11 yX11_next yX11_next ∈ jj_G := jj_pv (q := (yX11_next, 25)) (by decide +kernel)
theorem jn_X11_next : jj_N yX11_next 0 := by unfold jj_N; decide +kernel
theorem jw_705 : Cond.code yX11_begin cX11_begin 1 none ∈ jj_G := jj_t8 (List.mem_of_getElem? (i := 57) (by decide +kernel)) rfl
theorem jw_706 : Cond.methodLink RX11 373 yX11_begin ∈ jj_G := jj_t8 (List.mem_of_getElem? (i := 54) (by decide +kernel)) rfl
theorem jw_707 : Cond.instanceMethod yX11_begin ∈ jj_G := jj_t8 (List.mem_of_getElem? (i := 56) (by decide +kernel)) rfl
theorem jw_708 : Cond.selects RX11 yX11_begin yX11_begin ∈ jj_G := jj_pv (q := (yX11_begin, 25)) (by decide +kernel)
theorem jn_X11_begin : jj_N yX11_begin 0 := by unfold jj_N; decide +kernel
theorem jw_710 : Cond.fieldLink RJ0 9 "java/lang/String" "value" "[B" ∈ jj_G := jj_t9 (List.mem_of_getElem? (i := 82) (by decide +kernel)) rfl
theorem jw_711 : Cond.fieldLink RJ0 38 "java/lang/String" "COMPACT_STRINGS" "Z" ∈ jj_G := jj_t2 (List.mem_of_getElem? (i := 194) (by decide +kernel)) rfl
theorem jw_712 : Cond.fieldLink RJ0 15 "java/lang/String" "coder" "B" ∈ jj_G := jj_t9 (List.mem_of_getElem? (i := 83) (by decide +kernel)) rfl
theorem jw_713 : Cond.code yJ0_coder_7d493 cJ0_coder_7d493 1 (some .byte) ∈ jj_G := jj_t2 (List.mem_of_getElem? (i := 193) (by decide +kernel)) rfl
theorem jw_714 : Cond.methodLink RJ0 335 yJ0_coder_7d493 ∈ jj_G := jj_t2 (List.mem_of_getElem? (i := 190) (by decide +kernel)) rfl
theorem jw_715 : Cond.initialized RJ0 ∈ jj_G := jj_t1 (List.mem_of_getElem? (i := 16) (by decide +kernel)) rfl
theorem jw_716 : Cond.instanceMethod yJ0_coder_7d493 ∈ jj_G := jj_t2 (List.mem_of_getElem? (i := 191) (by decide +kernel)) rfl
theorem jw_717 : Cond.selects RJ0 yJ0_coder_7d493 yJ0_coder_7d493 ∈ jj_G := jj_t2 (List.mem_of_getElem? (i := 192) (by decide +kernel)) rfl
theorem jn_J0_coder_7d493 : jj_N yJ0_coder_7d493 0 := by unfold jj_N; decide +kernel
theorem jw_719 : Cond.code yJ0_length_8abf5 cJ0_length_8abf5 1 (some .int) ∈ jj_G := jj_t2 (List.mem_of_getElem? (i := 189) (by decide +kernel)) rfl
theorem jw_720 : Cond.methodLink RX11 330 yJ0_length_8abf5 ∈ jj_G := jj_t8 (List.mem_of_getElem? (i := 83) (by decide +kernel)) rfl
theorem jw_721 : Cond.instanceMethod yJ0_length_8abf5 ∈ jj_G := jj_t2 (List.mem_of_getElem? (i := 187) (by decide +kernel)) rfl
theorem jw_722 : Cond.selects RJ0 yJ0_length_8abf5 yJ0_length_8abf5 ∈ jj_G := jj_t2 (List.mem_of_getElem? (i := 188) (by decide +kernel)) rfl
theorem jn_J0_length_8abf5 : jj_N yJ0_length_8abf5 0 := by unfold jj_N; decide +kernel
theorem jw_724 : Cond.code yX11_isWord cX11_isWord 4 (some .boolean) ∈ jj_G := jj_t8 (List.mem_of_getElem? (i := 82) (by decide +kernel)) rfl
theorem jw_725 : Cond.methodLink RX11 347 yX11_isWord ∈ jj_G := jj_t8 (List.mem_of_getElem? (i := 79) (by decide +kernel)) rfl
theorem jw_726 : Cond.instanceMethod yX11_isWord ∈ jj_G := jj_t8 (List.mem_of_getElem? (i := 81) (by decide +kernel)) rfl
theorem jw_727 : Cond.selects RX11 yX11_isWord yX11_isWord ∈ jj_G := jj_pv (q := (yX11_isWord, 25)) (by decide +kernel)
theorem jn_X11_isWord : jj_N yX11_isWord 1 := by unfold jj_N; decide +kernel
theorem jw_729 : Cond.code yX11_wrong cX11_wrong 2 none ∈ jj_G := jj_t8 (List.mem_of_getElem? (i := 88) (by decide +kernel)) rfl
theorem jw_730 : Cond.methodLink RX11 341 yX11_wrong ∈ jj_G := jj_t8 (List.mem_of_getElem? (i := 85) (by decide +kernel)) rfl
theorem jw_731 : Cond.instanceMethod yX11_wrong ∈ jj_G := jj_t8 (List.mem_of_getElem? (i := 87) (by decide +kernel)) rfl
theorem jw_732 : Cond.selects RX11 yX11_wrong yX11_wrong ∈ jj_G := jj_pv (q := (yX11_wrong, 25)) (by decide +kernel)
theorem jn_X11_wrong : jj_N yX11_wrong 1 := by unfold jj_N; decide +kernel
theorem jw_734 : Cond.code yX11_pass cX11_pass 1 none ∈ jj_G := jj_t8 (List.mem_of_getElem? (i := 92) (by decide +kernel)) rfl
theorem jw_735 : Cond.methodLink RX11 344 yX11_pass ∈ jj_G := jj_t8 (List.mem_of_getElem? (i := 89) (by decide +kernel)) rfl
theorem jw_736 : Cond.instanceMethod yX11_pass ∈ jj_G := jj_t8 (List.mem_of_getElem? (i := 91) (by decide +kernel)) rfl
theorem jw_737 : Cond.selects RX11 yX11_pass yX11_pass ∈ jj_G := jj_pv (q := (yX11_pass, 25)) (by decide +kernel)
theorem jn_X11_pass : jj_N yX11_pass 0 := by unfold jj_N; decide +kernel
theorem jw_739 : Cond.code yX11_must cX11_must 2 none ∈ jj_G := jj_t8 (List.mem_of_getElem? (i := 78) (by decide +kernel)) rfl
theorem jw_740 : Cond.methodLink RX11 353 yX11_must ∈ jj_G := jj_t8 (List.mem_of_getElem? (i := 75) (by decide +kernel)) rfl
theorem jw_741 : Cond.instanceMethod yX11_must ∈ jj_G := jj_t8 (List.mem_of_getElem? (i := 77) (by decide +kernel)) rfl
theorem jw_742 : Cond.selects RX11 yX11_must yX11_must ∈ jj_G := jj_pv (q := (yX11_must, 25)) (by decide +kernel)
theorem jn_X11_must : jj_N yX11_must 1 := by unfold jj_N; decide +kernel
theorem jw_744 : Cond.code yX11_number cX11_number 7 (some .int) ∈ jj_G := jj_t8 (List.mem_of_getElem? (i := 98) (by decide +kernel)) rfl
theorem jw_745 : Cond.methodLink RX11 361 yX11_number ∈ jj_G := jj_t8 (List.mem_of_getElem? (i := 95) (by decide +kernel)) rfl
theorem jw_746 : Cond.instanceMethod yX11_number ∈ jj_G := jj_t8 (List.mem_of_getElem? (i := 97) (by decide +kernel)) rfl
theorem jw_747 : Cond.selects RX11 yX11_number yX11_number ∈ jj_G := jj_pv (q := (yX11_number, 25)) (by decide +kernel)
theorem jn_X11_number : jj_N yX11_number 2 := by unfold jj_N; decide +kernel
theorem jw_749 : Cond.constantLong RX11 365 (50) ∈ jj_G := jj_t8 (List.mem_of_getElem? (i := 99) (by decide +kernel)) rfl
theorem jw_750 : Cond.constantLong RX11 183 (6) ∈ jj_G := jj_t7 (List.mem_of_getElem? (i := 130) (by decide +kernel)) rfl
theorem jw_751 : Cond.code yX11_readHead cX11_readHead 1 none ∈ jj_G := jj_t8 (List.mem_of_getElem? (i := 73) (by decide +kernel)) rfl
theorem jw_752 : Cond.methodLink RX11 376 yX11_readHead ∈ jj_G := jj_t8 (List.mem_of_getElem? (i := 70) (by decide +kernel)) rfl
theorem jw_753 : Cond.instanceMethod yX11_readHead ∈ jj_G := jj_t8 (List.mem_of_getElem? (i := 72) (by decide +kernel)) rfl
theorem jw_754 : Cond.selects RX11 yX11_readHead yX11_readHead ∈ jj_G := jj_pv (q := (yX11_readHead, 25)) (by decide +kernel)
theorem jn_X11_readHead : jj_N yX11_readHead 0 := by unfold jj_N; decide +kernel
theorem jw_756 : Cond.code yX11_parseFund cX11_parseFund 3 (some .int) ∈ jj_G := jj_t8 (List.mem_of_getElem? (i := 53) (by decide +kernel)) rfl
theorem jw_757 : Cond.code yX10_errorCode cX10_errorCode 1 (some .int) ∈ jj_G := jj_t3 (List.mem_of_getElem? (i := 162) (by decide +kernel)) rfl
theorem jw_758 : Cond.code yX11_errorCode cX11_errorCode 1 (some .int) ∈ jj_G := jj_t8 (List.mem_of_getElem? (i := 110) (by decide +kernel)) rfl
theorem jw_759 : Cond.code yX10_errorPosition cX10_errorPosition 1 (some .int) ∈ jj_G := jj_t3 (List.mem_of_getElem? (i := 166) (by decide +kernel)) rfl
theorem jw_760 : Cond.code yX11_errorPosition cX11_errorPosition 1 (some .int) ∈ jj_G := jj_t8 (List.mem_of_getElem? (i := 114) (by decide +kernel)) rfl
theorem jw_761 : Cond.fieldLink RX1 56 "SeriesFund$Book" "requestCount" "I" ∈ jj_G := jj_t2 (List.mem_of_getElem? (i := 3) (by decide +kernel)) rfl
theorem jw_762 : Cond.code yX1_baseOfRedemptions cX1_baseOfRedemptions 6 (some .long) ∈ jj_G := jj_t3 (List.mem_of_getElem? (i := 41) (by decide +kernel)) rfl
theorem jw_763 : Cond.methodLink RX1 34 yX1_baseOfRedemptions ∈ jj_G := jj_t3 (List.mem_of_getElem? (i := 38) (by decide +kernel)) rfl
theorem jw_764 : Cond.instanceMethod yX1_baseOfRedemptions ∈ jj_G := jj_t3 (List.mem_of_getElem? (i := 39) (by decide +kernel)) rfl
theorem jw_765 : Cond.selects RX1 yX1_baseOfRedemptions yX1_baseOfRedemptions ∈ jj_G := jj_t3 (List.mem_of_getElem? (i := 40) (by decide +kernel)) rfl
theorem jn_X1_baseOfRedemptions : jj_N yX1_baseOfRedemptions 1 := by unfold jj_N; decide +kernel
theorem jw_767 : Cond.methodLink RX0 96 yX0_netOfAll ∈ jj_G := jj_t3 (List.mem_of_getElem? (i := 93) (by decide +kernel)) rfl
theorem jw_768 : Cond.constantLong RX0 100 (100) ∈ jj_G := jj_t3 (List.mem_of_getElem? (i := 98) (by decide +kernel)) rfl
theorem jw_769 : Cond.code yX0_limitOfGate cX0_limitOfGate 1 (some .long) ∈ jj_G := jj_t3 (List.mem_of_getElem? (i := 92) (by decide +kernel)) rfl
theorem jw_770 : Cond.methodLink RX1 52 yX0_limitOfGate ∈ jj_G := jj_t3 (List.mem_of_getElem? (i := 89) (by decide +kernel)) rfl
theorem jw_771 : Cond.instanceMethod yX0_limitOfGate ∈ jj_G := jj_t3 (List.mem_of_getElem? (i := 90) (by decide +kernel)) rfl
theorem jw_772 : Cond.selects RX0 yX0_limitOfGate yX0_limitOfGate ∈ jj_G := jj_t3 (List.mem_of_getElem? (i := 91) (by decide +kernel)) rfl
theorem jn_X0_limitOfGate : jj_N yX0_limitOfGate 0 := by unfold jj_N; decide +kernel
theorem jw_774 : Cond.code yX1_redeemWaiting cX1_redeemWaiting 10 none ∈ jj_G := jj_t3 (List.mem_of_getElem? (i := 88) (by decide +kernel)) rfl
theorem jw_775 : Cond.methodLink RX1 38 yX1_redeemWaiting ∈ jj_G := jj_t3 (List.mem_of_getElem? (i := 85) (by decide +kernel)) rfl
theorem jw_776 : Cond.instanceMethod yX1_redeemWaiting ∈ jj_G := jj_t3 (List.mem_of_getElem? (i := 86) (by decide +kernel)) rfl
theorem jw_777 : Cond.selects RX1 yX1_redeemWaiting yX1_redeemWaiting ∈ jj_G := jj_t3 (List.mem_of_getElem? (i := 87) (by decide +kernel)) rfl
theorem jn_X1_redeemWaiting : jj_N yX1_redeemWaiting 2 := by unfold jj_N; decide +kernel
theorem jw_779 : Cond.fieldLink RX1 165 "SeriesFund$Book" "method" "I" ∈ jj_G := jj_t1 (List.mem_of_getElem? (i := 212) (by decide +kernel)) rfl
theorem jw_780 : Cond.code yX1_subscribeWaiting cX1_subscribeWaiting 5 none ∈ jj_G := jj_t3 (List.mem_of_getElem? (i := 122) (by decide +kernel)) rfl
theorem jw_781 : Cond.methodLink RX1 42 yX1_subscribeWaiting ∈ jj_G := jj_t3 (List.mem_of_getElem? (i := 119) (by decide +kernel)) rfl
theorem jw_782 : Cond.instanceMethod yX1_subscribeWaiting ∈ jj_G := jj_t3 (List.mem_of_getElem? (i := 120) (by decide +kernel)) rfl
theorem jw_783 : Cond.selects RX1 yX1_subscribeWaiting yX1_subscribeWaiting ∈ jj_G := jj_t3 (List.mem_of_getElem? (i := 121) (by decide +kernel)) rfl
theorem jn_X1_subscribeWaiting : jj_N yX1_subscribeWaiting 1 := by unfold jj_N; decide +kernel
theorem jw_785 : Cond.code yX0_dropDoneRequests cX0_dropDoneRequests 4 (some .int) ∈ jj_G := jj_t3 (List.mem_of_getElem? (i := 145) (by decide +kernel)) rfl
theorem jw_786 : Cond.methodLink RX1 46 yX0_dropDoneRequests ∈ jj_G := jj_t3 (List.mem_of_getElem? (i := 142) (by decide +kernel)) rfl
theorem jw_787 : Cond.instanceMethod yX0_dropDoneRequests ∈ jj_G := jj_t3 (List.mem_of_getElem? (i := 143) (by decide +kernel)) rfl
theorem jw_788 : Cond.selects RX0 yX0_dropDoneRequests yX0_dropDoneRequests ∈ jj_G := jj_t3 (List.mem_of_getElem? (i := 144) (by decide +kernel)) rfl
theorem jn_X0_dropDoneRequests : jj_N yX0_dropDoneRequests 0 := by unfold jj_N; decide +kernel
theorem jw_790 : Cond.code yX1_holdDealing cX1_holdDealing 2 (some .int) ∈ jj_G := jj_t3 (List.mem_of_getElem? (i := 37) (by decide +kernel)) rfl
theorem jw_791 : Cond.methodLink RX10 97 yX1_holdDealing ∈ jj_G := jj_t3 (List.mem_of_getElem? (i := 34) (by decide +kernel)) rfl
theorem jw_792 : Cond.instanceMethod yX1_holdDealing ∈ jj_G := jj_t3 (List.mem_of_getElem? (i := 35) (by decide +kernel)) rfl
theorem jw_793 : Cond.selects RX1 yX1_holdDealing yX1_holdDealing ∈ jj_G := jj_t3 (List.mem_of_getElem? (i := 36) (by decide +kernel)) rfl
theorem jn_X1_holdDealing : jj_N yX1_holdDealing 1 := by unfold jj_N; decide +kernel
theorem jw_795 : Cond.code yX10_deal cX10_deal 1 (some .int) ∈ jj_G := jj_t3 (List.mem_of_getElem? (i := 170) (by decide +kernel)) rfl
theorem jw_796 : Cond.code yX11_requested cX11_requested 4 (some .long) ∈ jj_G := jj_t7 (List.mem_of_getElem? (i := 33) (by decide +kernel)) rfl
theorem jw_797 : Cond.methodLink RX11 173 yX11_requested ∈ jj_G := jj_t7 (List.mem_of_getElem? (i := 30) (by decide +kernel)) rfl
theorem jw_798 : Cond.instanceMethod yX11_requested ∈ jj_G := jj_t7 (List.mem_of_getElem? (i := 32) (by decide +kernel)) rfl
theorem jw_799 : Cond.selects RX11 yX11_requested yX11_requested ∈ jj_G := jj_pv (q := (yX11_requested, 25)) (by decide +kernel)
theorem jn_X11_requested : jj_N yX11_requested 0 := by unfold jj_N; decide +kernel
theorem jw_801 : Cond.code yX11_limit cX11_limit 1 (some .long) ∈ jj_G := jj_t7 (List.mem_of_getElem? (i := 107) (by decide +kernel)) rfl
theorem jw_802 : Cond.methodLink RX11 176 yX11_limit ∈ jj_G := jj_t7 (List.mem_of_getElem? (i := 104) (by decide +kernel)) rfl
theorem jw_803 : Cond.instanceMethod yX11_limit ∈ jj_G := jj_t7 (List.mem_of_getElem? (i := 106) (by decide +kernel)) rfl
theorem jw_804 : Cond.selects RX11 yX11_limit yX11_limit ∈ jj_G := jj_pv (q := (yX11_limit, 25)) (by decide +kernel)
theorem jn_X11_limit : jj_N yX11_limit 0 := by unfold jj_N; decide +kernel
theorem jw_806 : Cond.code yX11_redeemAll cX11_redeemAll 11 none ∈ jj_G := jj_t7 (List.mem_of_getElem? (i := 29) (by decide +kernel)) rfl
theorem jw_807 : Cond.methodLink RX11 193 yX11_redeemAll ∈ jj_G := jj_t7 (List.mem_of_getElem? (i := 26) (by decide +kernel)) rfl
theorem jw_808 : Cond.instanceMethod yX11_redeemAll ∈ jj_G := jj_t7 (List.mem_of_getElem? (i := 28) (by decide +kernel)) rfl
theorem jw_809 : Cond.selects RX11 yX11_redeemAll yX11_redeemAll ∈ jj_G := jj_pv (q := (yX11_redeemAll, 25)) (by decide +kernel)
theorem jn_X11_redeemAll : jj_N yX11_redeemAll 0 := by unfold jj_N; decide +kernel
theorem jw_811 : Cond.code yX11_subscribeAll cX11_subscribeAll 4 none ∈ jj_G := jj_t7 (List.mem_of_getElem? (i := 119) (by decide +kernel)) rfl
theorem jw_812 : Cond.methodLink RX11 196 yX11_subscribeAll ∈ jj_G := jj_t7 (List.mem_of_getElem? (i := 116) (by decide +kernel)) rfl
theorem jw_813 : Cond.instanceMethod yX11_subscribeAll ∈ jj_G := jj_t7 (List.mem_of_getElem? (i := 118) (by decide +kernel)) rfl
theorem jw_814 : Cond.selects RX11 yX11_subscribeAll yX11_subscribeAll ∈ jj_G := jj_pv (q := (yX11_subscribeAll, 25)) (by decide +kernel)
theorem jn_X11_subscribeAll : jj_N yX11_subscribeAll 0 := by unfold jj_N; decide +kernel
theorem jw_816 : Cond.code yX11_dealNow cX11_dealNow 3 (some .int) ∈ jj_G := jj_t7 (List.mem_of_getElem? (i := 25) (by decide +kernel)) rfl
theorem jw_817 : Cond.methodLink RX11 205 yX11_dealNow ∈ jj_G := jj_t7 (List.mem_of_getElem? (i := 22) (by decide +kernel)) rfl
theorem jw_818 : Cond.instanceMethod yX11_dealNow ∈ jj_G := jj_t7 (List.mem_of_getElem? (i := 24) (by decide +kernel)) rfl
theorem jw_819 : Cond.selects RX11 yX11_dealNow yX11_dealNow ∈ jj_G := jj_pv (q := (yX11_dealNow, 25)) (by decide +kernel)
theorem jn_X11_dealNow : jj_N yX11_dealNow 0 := by unfold jj_N; decide +kernel
theorem jw_821 : Cond.code yX11_deal cX11_deal 1 (some .int) ∈ jj_G := jj_t7 (List.mem_of_getElem? (i := 10) (by decide +kernel)) rfl
theorem jw_822 : Cond.code yX0_dropEmptyLots cX0_dropEmptyLots 4 none ∈ jj_G := jj_t3 (List.mem_of_getElem? (i := 110) (by decide +kernel)) rfl
theorem jw_823 : Cond.methodLink RX2 59 yX0_dropEmptyLots ∈ jj_G := jj_t3 (List.mem_of_getElem? (i := 195) (by decide +kernel)) rfl
theorem jw_824 : Cond.instanceMethod yX0_dropEmptyLots ∈ jj_G := jj_t3 (List.mem_of_getElem? (i := 108) (by decide +kernel)) rfl
theorem jw_825 : Cond.selects RX0 yX0_dropEmptyLots yX0_dropEmptyLots ∈ jj_G := jj_t3 (List.mem_of_getElem? (i := 109) (by decide +kernel)) rfl
theorem jn_X0_dropEmptyLots : jj_N yX0_dropEmptyLots 0 := by unfold jj_N; decide +kernel
theorem jw_827 : Cond.code yX0_closeEmptySeries cX0_closeEmptySeries 4 none ∈ jj_G := jj_t3 (List.mem_of_getElem? (i := 114) (by decide +kernel)) rfl
theorem jw_828 : Cond.methodLink RX2 62 yX0_closeEmptySeries ∈ jj_G := jj_t3 (List.mem_of_getElem? (i := 196) (by decide +kernel)) rfl
theorem jw_829 : Cond.instanceMethod yX0_closeEmptySeries ∈ jj_G := jj_t3 (List.mem_of_getElem? (i := 112) (by decide +kernel)) rfl
theorem jw_830 : Cond.selects RX0 yX0_closeEmptySeries yX0_closeEmptySeries ∈ jj_G := jj_t3 (List.mem_of_getElem? (i := 113) (by decide +kernel)) rfl
theorem jn_X0_closeEmptySeries : jj_N yX0_closeEmptySeries 0 := by unfold jj_N; decide +kernel
theorem jw_832 : Cond.code yX2_settleAll cX2_settleAll 4 (some .long) ∈ jj_G := jj_t3 (List.mem_of_getElem? (i := 181) (by decide +kernel)) rfl
theorem jw_833 : Cond.methodLink RX10 155 yX2_settleAll ∈ jj_G := jj_t3 (List.mem_of_getElem? (i := 179) (by decide +kernel)) rfl
theorem jw_834 : Cond.static yX2_settleAll ∈ jj_G := jj_t3 (List.mem_of_getElem? (i := 180) (by decide +kernel)) rfl
theorem jn_X2_settleAll : jj_N yX2_settleAll 1 := by unfold jj_N; decide +kernel
theorem jw_836 : Cond.code yX10_crystallize cX10_crystallize 1 (some .long) ∈ jj_G := jj_t3 (List.mem_of_getElem? (i := 178) (by decide +kernel)) rfl
theorem jw_837 : Cond.code yX11_crystallizeAll cX11_crystallizeAll 4 (some .long) ∈ jj_G := jj_t7 (List.mem_of_getElem? (i := 229) (by decide +kernel)) rfl
theorem jw_838 : Cond.methodLink RX11 281 yX11_crystallizeAll ∈ jj_G := jj_t7 (List.mem_of_getElem? (i := 226) (by decide +kernel)) rfl
theorem jw_839 : Cond.instanceMethod yX11_crystallizeAll ∈ jj_G := jj_t7 (List.mem_of_getElem? (i := 228) (by decide +kernel)) rfl
theorem jw_840 : Cond.selects RX11 yX11_crystallizeAll yX11_crystallizeAll ∈ jj_G := jj_pv (q := (yX11_crystallizeAll, 25)) (by decide +kernel)
theorem jn_X11_crystallizeAll : jj_N yX11_crystallizeAll 0 := by unfold jj_N; decide +kernel
theorem jw_842 : Cond.code yX11_crystallize cX11_crystallize 1 (some .long) ∈ jj_G := jj_t7 (List.mem_of_getElem? (i := 225) (by decide +kernel)) rfl
theorem jw_843 : Cond.fieldLink RX2 89 "SeriesFund$Book" "method" "I" ∈ jj_G := jj_t1 (List.mem_of_getElem? (i := 211) (by decide +kernel)) rfl
theorem jw_844 : Cond.code yX2_mergeAll cX2_mergeAll 6 (some .int) ∈ jj_G := jj_t3 (List.mem_of_getElem? (i := 203) (by decide +kernel)) rfl
theorem jw_845 : Cond.methodLink RX10 159 yX2_mergeAll ∈ jj_G := jj_t3 (List.mem_of_getElem? (i := 201) (by decide +kernel)) rfl
theorem jw_846 : Cond.static yX2_mergeAll ∈ jj_G := jj_t3 (List.mem_of_getElem? (i := 202) (by decide +kernel)) rfl
theorem jn_X2_mergeAll : jj_N yX2_mergeAll 1 := by unfold jj_N; decide +kernel
theorem jw_848 : Cond.code yX10_merge cX10_merge 1 (some .int) ∈ jj_G := jj_t3 (List.mem_of_getElem? (i := 200) (by decide +kernel)) rfl
theorem jw_849 : Cond.code yX11_mergeAll cX11_mergeAll 7 (some .int) ∈ jj_G := jj_t8 (List.mem_of_getElem? (i := 13) (by decide +kernel)) rfl
theorem jw_850 : Cond.methodLink RX11 287 yX11_mergeAll ∈ jj_G := jj_t8 (List.mem_of_getElem? (i := 10) (by decide +kernel)) rfl
theorem jw_851 : Cond.instanceMethod yX11_mergeAll ∈ jj_G := jj_t8 (List.mem_of_getElem? (i := 12) (by decide +kernel)) rfl
theorem jw_852 : Cond.selects RX11 yX11_mergeAll yX11_mergeAll ∈ jj_G := jj_pv (q := (yX11_mergeAll, 25)) (by decide +kernel)
theorem jn_X11_mergeAll : jj_N yX11_mergeAll 0 := by unfold jj_N; decide +kernel
theorem jw_854 : Cond.code yX11_merge cX11_merge 1 (some .int) ∈ jj_G := jj_t8 (List.mem_of_getElem? (i := 9) (by decide +kernel)) rfl
theorem jw_856 : Cond.laysFinal RX7 "SeriesFund$Script" "tokens" "LSeriesFund$Tokens;" ∈ jj_G := jj_t3 (List.mem_of_getElem? (i := 223) (by decide +kernel)) rfl
theorem jw_857 : Cond.laysFinal RX7 "SeriesFund$Script" "book" "LSeriesFund$Book;" ∈ jj_G := jj_t3 (List.mem_of_getElem? (i := 225) (by decide +kernel)) rfl
theorem jw_858 : Cond.laysFinal RX7 "SeriesFund$Script" "desk" "LSeriesFund$Desk;" ∈ jj_G := jj_t3 (List.mem_of_getElem? (i := 227) (by decide +kernel)) rfl
theorem jw_859 : Cond.lays RX7 "SeriesFund$Script" "operation" "I" ∈ jj_G := jj_t3 (List.mem_of_getElem? (i := 229) (by decide +kernel)) rfl
theorem jw_860 : Cond.lays RX7 "SeriesFund$Script" "first" "I" ∈ jj_G := jj_t3 (List.mem_of_getElem? (i := 231) (by decide +kernel)) rfl
theorem jw_861 : Cond.lays RX7 "SeriesFund$Script" "second" "I" ∈ jj_G := jj_t3 (List.mem_of_getElem? (i := 233) (by decide +kernel)) rfl
theorem ju_8 : ∀ w ∈ u_ws RX7 TX7 6, w ∈ jj_G := by
  intro w hw
  obtain ⟨k, hk, rfl⟩ := List.mem_map.mp hw
  have hk := List.mem_range.mp hk
  match k, hk with
  | 0, _ => exact jw_856
  | 1, _ => exact jw_857
  | 2, _ => exact jw_858
  | 3, _ => exact jw_859
  | 4, _ => exact jw_860
  | 5, _ => exact jw_861
  | n + 6, hk => exact absurd hk (by omega)
theorem jk_8 : jj_K 8 RX7 TX7 6 tyX7 := ⟨rfl, ju_8, tyX7_ok, nmX7⟩
theorem jd_8 : ∀ j, j < 6 → defaultValue (tyX7 j) = vp_V [.null, .null, .null, .int 0, .int 0, .int 0] j := by
  intro j hj
  match j, hj with
  | 0, _ => rfl
  | 1, _ => rfl
  | 2, _ => rfl
  | 3, _ => rfl
  | 4, _ => rfl
  | 5, _ => rfl
  | n + 6, hj => exact absurd hj (by omega)
theorem jw_862 : Cond.classLink RX10 179 RX7 ∈ jj_G := jj_t3 (List.mem_of_getElem? (i := 211) (by decide +kernel)) rfl
theorem jw_863 : Cond.instantiable RX7 6 ∈ jj_G := jj_t3 (List.mem_of_getElem? (i := 212) (by decide +kernel)) rfl
theorem jw_864 : Cond.initialized RX7 ∈ jj_G := jj_t1 (List.mem_of_getElem? (i := 24) (by decide +kernel)) rfl
theorem jw_865 : Cond.methodLink RX7 3 objectInit ∈ jj_G := jj_t3 (List.mem_of_getElem? (i := 216) (by decide +kernel)) rfl
theorem jw_866 : Cond.fieldLink RX7 9 "SeriesFund$Script" "operation" "I" ∈ jj_G := jj_t3 (List.mem_of_getElem? (i := 220) (by decide +kernel)) rfl
theorem jw_867 : Cond.fieldLink RX7 15 "SeriesFund$Script" "first" "I" ∈ jj_G := jj_t3 (List.mem_of_getElem? (i := 221) (by decide +kernel)) rfl
theorem jw_868 : Cond.fieldLink RX7 18 "SeriesFund$Script" "second" "I" ∈ jj_G := jj_t3 (List.mem_of_getElem? (i := 222) (by decide +kernel)) rfl
theorem jw_869 : Cond.fieldLink RX7 21 "SeriesFund$Script" "tokens" "LSeriesFund$Tokens;" ∈ jj_G := jj_t3 (List.mem_of_getElem? (i := 217) (by decide +kernel)) rfl
theorem jw_870 : Cond.fieldLink RX7 25 "SeriesFund$Script" "book" "LSeriesFund$Book;" ∈ jj_G := jj_t3 (List.mem_of_getElem? (i := 218) (by decide +kernel)) rfl
theorem jw_871 : Cond.fieldLink RX7 29 "SeriesFund$Script" "desk" "LSeriesFund$Desk;" ∈ jj_G := jj_t3 (List.mem_of_getElem? (i := 219) (by decide +kernel)) rfl
theorem jw_872 : Cond.code yX7_init cX7_init 4 none ∈ jj_G := jj_t3 (List.mem_of_getElem? (i := 215) (by decide +kernel)) rfl
theorem jw_873 : Cond.methodLink RX10 181 yX7_init ∈ jj_G := jj_t3 (List.mem_of_getElem? (i := 213) (by decide +kernel)) rfl
theorem jw_874 : Cond.instanceMethod yX7_init ∈ jj_G := jj_t3 (List.mem_of_getElem? (i := 214) (by decide +kernel)) rfl
theorem jn_X7_init : jj_N yX7_init 3 := by unfold jj_N; decide +kernel
theorem jw_876 : Cond.methodLink RX10 184 yX9_advance ∈ jj_G := jj_t3 (List.mem_of_getElem? (i := 236) (by decide +kernel)) rfl
theorem jw_877 : Cond.fieldLink RX10 187 "SeriesFund$Tokens" "kind" "I" ∈ jj_G := jj_t1 (List.mem_of_getElem? (i := 51) (by decide +kernel)) rfl
theorem jw_878 : Cond.code yX10_runScript cX10_runScript 4 (some .int) ∈ jj_G := jj_t3 (List.mem_of_getElem? (i := 210) (by decide +kernel)) rfl
theorem jw_879 : Cond.code yX11_runScript cX11_runScript 5 (some .int) ∈ jj_G := jj_t8 (List.mem_of_getElem? (i := 118) (by decide +kernel)) rfl
theorem jw_880 : Cond.code yX10_netAssets cX10_netAssets 1 (some .long) ∈ jj_G := jj_t4 (List.mem_of_getElem? (i := 76) (by decide +kernel)) rfl
theorem jw_881 : Cond.code yX11_netAssets cX11_netAssets 1 (some .long) ∈ jj_G := jj_t8 (List.mem_of_getElem? (i := 157) (by decide +kernel)) rfl
theorem jw_882 : Cond.methodLink RX10 334 yX1_baseOfRedemptions ∈ jj_G := jj_t4 (List.mem_of_getElem? (i := 82) (by decide +kernel)) rfl
theorem jw_883 : Cond.code yX10_requestedValue cX10_requestedValue 1 (some .long) ∈ jj_G := jj_t4 (List.mem_of_getElem? (i := 81) (by decide +kernel)) rfl
theorem jw_884 : Cond.code yX11_requestedValue cX11_requestedValue 1 (some .long) ∈ jj_G := jj_t8 (List.mem_of_getElem? (i := 214) (by decide +kernel)) rfl
theorem jw_885 : Cond.methodLink RX10 337 yX0_limitOfGate ∈ jj_G := jj_t4 (List.mem_of_getElem? (i := 87) (by decide +kernel)) rfl
theorem jw_886 : Cond.code yX10_gateLimit cX10_gateLimit 1 (some .long) ∈ jj_G := jj_t4 (List.mem_of_getElem? (i := 86) (by decide +kernel)) rfl
theorem jw_887 : Cond.code yX11_gateLimit cX11_gateLimit 1 (some .long) ∈ jj_G := jj_t8 (List.mem_of_getElem? (i := 218) (by decide +kernel)) rfl
theorem jw_888 : Cond.code yX10_wouldCrystallize cX10_wouldCrystallize 1 (some .long) ∈ jj_G := jj_t4 (List.mem_of_getElem? (i := 91) (by decide +kernel)) rfl
theorem jw_889 : Cond.code yX11_wouldCrystallize cX11_wouldCrystallize 3 (some .long) ∈ jj_G := jj_t9 (List.mem_of_getElem? (i := 22) (by decide +kernel)) rfl
theorem jw_890 : Cond.code yX10_wouldMerge cX10_wouldMerge 1 (some .int) ∈ jj_G := jj_t4 (List.mem_of_getElem? (i := 95) (by decide +kernel)) rfl
theorem jw_891 : Cond.code yX11_wouldMerge cX11_wouldMerge 4 (some .int) ∈ jj_G := jj_t9 (List.mem_of_getElem? (i := 26) (by decide +kernel)) rfl
theorem jw_892 : Cond.methodLink RX5 85 yJ0_length_8abf5 ∈ jj_G := jj_t4 (List.mem_of_getElem? (i := 109) (by decide +kernel)) rfl
theorem jw_893 : Cond.code yJ0_isLatin1_aae02 cJ0_isLatin1_aae02 1 (some .boolean) ∈ jj_G := jj_t2 (List.mem_of_getElem? (i := 203) (by decide +kernel)) rfl
theorem jw_894 : Cond.methodLink RJ0 492 yJ0_isLatin1_aae02 ∈ jj_G := jj_t2 (List.mem_of_getElem? (i := 200) (by decide +kernel)) rfl
theorem jw_895 : Cond.instanceMethod yJ0_isLatin1_aae02 ∈ jj_G := jj_t2 (List.mem_of_getElem? (i := 201) (by decide +kernel)) rfl
theorem jw_896 : Cond.selects RJ0 yJ0_isLatin1_aae02 yJ0_isLatin1_aae02 ∈ jj_G := jj_t2 (List.mem_of_getElem? (i := 202) (by decide +kernel)) rfl
theorem jn_J0_isLatin1_aae02 : jj_N yJ0_isLatin1_aae02 0 := by unfold jj_N; decide +kernel
theorem jw_898 : Cond.fieldLink RJ0 1053 "jdk/internal/util/Preconditions" "SIOOBE_FORMATTER" "Ljava/util/function/BiFunction;" ∈ jj_G := jj_t2 (List.mem_of_getElem? (i := 210) (by decide +kernel)) rfl
theorem jw_899 : Cond.code yJ3_checkIndex_8e157 cJ3_checkIndex_8e157 3 (some .int) ∈ jj_G := jj_t2 (List.mem_of_getElem? (i := 214) (by decide +kernel)) rfl
theorem jw_900 : Cond.methodLink RJ0 1059 yJ3_checkIndex_8e157 ∈ jj_G := jj_t2 (List.mem_of_getElem? (i := 212) (by decide +kernel)) rfl
theorem jw_901 : Cond.initialized RJ3 ∈ jj_G := jj_t1 (List.mem_of_getElem? (i := 18) (by decide +kernel)) rfl
theorem jw_902 : Cond.static yJ3_checkIndex_8e157 ∈ jj_G := jj_t2 (List.mem_of_getElem? (i := 213) (by decide +kernel)) rfl
theorem jn_J3_checkIndex_8e157 : jj_N yJ3_checkIndex_8e157 3 := by unfold jj_N; decide +kernel
theorem jw_904 : Cond.code yJ0_checkIndex_df160 cJ0_checkIndex_df160 2 none ∈ jj_G := jj_t2 (List.mem_of_getElem? (i := 209) (by decide +kernel)) rfl
theorem jw_905 : Cond.methodLink RJ1 9 yJ0_checkIndex_df160 ∈ jj_G := jj_t2 (List.mem_of_getElem? (i := 207) (by decide +kernel)) rfl
theorem jw_906 : Cond.static yJ0_checkIndex_df160 ∈ jj_G := jj_t2 (List.mem_of_getElem? (i := 208) (by decide +kernel)) rfl
theorem jn_J0_checkIndex_df160 : jj_N yJ0_checkIndex_df160 2 := by unfold jj_N; decide +kernel
theorem jw_908 : Cond.code yJ1_charAt_3b067 cJ1_charAt_3b067 2 (some .char) ∈ jj_G := jj_t2 (List.mem_of_getElem? (i := 206) (by decide +kernel)) rfl
theorem jw_909 : Cond.methodLink RJ0 495 yJ1_charAt_3b067 ∈ jj_G := jj_t2 (List.mem_of_getElem? (i := 204) (by decide +kernel)) rfl
theorem jw_910 : Cond.initialized RJ1 ∈ jj_G := jj_t1 (List.mem_of_getElem? (i := 17) (by decide +kernel)) rfl
theorem jw_911 : Cond.static yJ1_charAt_3b067 ∈ jj_G := jj_t2 (List.mem_of_getElem? (i := 205) (by decide +kernel)) rfl
theorem jn_J1_charAt_3b067 : jj_N yJ1_charAt_3b067 2 := by unfold jj_N; decide +kernel
theorem jw_913 : Cond.code yJ0_charAt_5068e cJ0_charAt_5068e 2 (some .char) ∈ jj_G := jj_t2 (List.mem_of_getElem? (i := 199) (by decide +kernel)) rfl
theorem jw_914 : Cond.methodLink RX5 90 yJ0_charAt_5068e ∈ jj_G := jj_t4 (List.mem_of_getElem? (i := 110) (by decide +kernel)) rfl
theorem jw_915 : Cond.instanceMethod yJ0_charAt_5068e ∈ jj_G := jj_t2 (List.mem_of_getElem? (i := 197) (by decide +kernel)) rfl
theorem jw_916 : Cond.selects RJ0 yJ0_charAt_5068e yJ0_charAt_5068e ∈ jj_G := jj_t2 (List.mem_of_getElem? (i := 198) (by decide +kernel)) rfl
theorem jn_J0_charAt_5068e : jj_N yJ0_charAt_5068e 1 := by unfold jj_N; decide +kernel
theorem jw_918 : Cond.code yX5_putByte cX5_putByte 2 none ∈ jj_G := jj_t4 (List.mem_of_getElem? (i := 114) (by decide +kernel)) rfl
theorem jw_919 : Cond.methodLink RX5 94 yX5_putByte ∈ jj_G := jj_t4 (List.mem_of_getElem? (i := 111) (by decide +kernel)) rfl
theorem jw_920 : Cond.instanceMethod yX5_putByte ∈ jj_G := jj_t4 (List.mem_of_getElem? (i := 113) (by decide +kernel)) rfl
theorem jw_921 : Cond.selects RX5 yX5_putByte yX5_putByte ∈ jj_G := jj_pv (q := (yX5_putByte, 3)) (by decide +kernel)
theorem jn_X5_putByte : jj_N yX5_putByte 1 := by unfold jj_N; decide +kernel
theorem jw_923 : Cond.code yX5_putText cX5_putText 3 none ∈ jj_G := jj_t4 (List.mem_of_getElem? (i := 108) (by decide +kernel)) rfl
theorem jw_924 : Cond.methodLink RX5 24 yX5_putText ∈ jj_G := jj_t4 (List.mem_of_getElem? (i := 105) (by decide +kernel)) rfl
theorem jw_925 : Cond.instanceMethod yX5_putText ∈ jj_G := jj_t4 (List.mem_of_getElem? (i := 107) (by decide +kernel)) rfl
theorem jw_926 : Cond.selects RX5 yX5_putText yX5_putText ∈ jj_G := jj_pv (q := (yX5_putText, 3)) (by decide +kernel)
theorem jn_X5_putText : jj_N yX5_putText 1 := by unfold jj_N; decide +kernel
theorem jw_928 : Cond.fieldLink RX5 28 "SeriesFund$Book" "day" "I" ∈ jj_G := jj_t1 (List.mem_of_getElem? (i := 228) (by decide +kernel)) rfl
theorem jw_929 : Cond.constantLong RX5 100 (48) ∈ jj_G := jj_t4 (List.mem_of_getElem? (i := 120) (by decide +kernel)) rfl
theorem jw_930 : Cond.constantLong RX5 102 (10) ∈ jj_G := jj_t4 (List.mem_of_getElem? (i := 121) (by decide +kernel)) rfl
theorem jw_931 : Cond.code yJ9_abs_067f4 cJ9_abs_067f4 2 (some .long) ∈ jj_G := jj_t4 (List.mem_of_getElem? (i := 124) (by decide +kernel)) rfl
theorem jw_932 : Cond.methodLink RX5 104 yJ9_abs_067f4 ∈ jj_G := jj_t4 (List.mem_of_getElem? (i := 122) (by decide +kernel)) rfl
theorem jw_933 : Cond.static yJ9_abs_067f4 ∈ jj_G := jj_t4 (List.mem_of_getElem? (i := 123) (by decide +kernel)) rfl
theorem jn_J9_abs_067f4 : jj_N yJ9_abs_067f4 1 := by unfold jj_N; decide +kernel
theorem jw_935 : Cond.code yX5_putNumber cX5_putNumber 7 none ∈ jj_G := jj_t4 (List.mem_of_getElem? (i := 118) (by decide +kernel)) rfl
theorem jw_936 : Cond.methodLink RX5 33 yX5_putNumber ∈ jj_G := jj_t4 (List.mem_of_getElem? (i := 115) (by decide +kernel)) rfl
theorem jw_937 : Cond.instanceMethod yX5_putNumber ∈ jj_G := jj_t4 (List.mem_of_getElem? (i := 117) (by decide +kernel)) rfl
theorem jw_938 : Cond.selects RX5 yX5_putNumber yX5_putNumber ∈ jj_G := jj_pv (q := (yX5_putNumber, 3)) (by decide +kernel)
theorem jn_X5_putNumber : jj_N yX5_putNumber 1 := by unfold jj_N; decide +kernel
theorem jw_940 : Cond.methodLink RX5 39 yX0_netOfAll ∈ jj_G := jj_t4 (List.mem_of_getElem? (i := 126) (by decide +kernel)) rfl
theorem jw_941 : Cond.fieldLink RX5 45 "SeriesFund$Book" "seriesCount" "I" ∈ jj_G := jj_t1 (List.mem_of_getElem? (i := 234) (by decide +kernel)) rfl
theorem jw_942 : Cond.code yX5_write cX5_write 3 none ∈ jj_G := jj_t4 (List.mem_of_getElem? (i := 103) (by decide +kernel)) rfl
theorem jw_943 : Cond.methodLink RX10 390 yX5_write ∈ jj_G := jj_t4 (List.mem_of_getElem? (i := 100) (by decide +kernel)) rfl
theorem jw_944 : Cond.instanceMethod yX5_write ∈ jj_G := jj_t4 (List.mem_of_getElem? (i := 101) (by decide +kernel)) rfl
theorem jw_945 : Cond.selects RX5 yX5_write yX5_write ∈ jj_G := jj_t4 (List.mem_of_getElem? (i := 102) (by decide +kernel)) rfl
theorem jn_X5_write : jj_N yX5_write 1 := by unfold jj_N; decide +kernel
theorem jw_947 : Cond.code yX10_writeReport cX10_writeReport 1 (some .int) ∈ jj_G := jj_t4 (List.mem_of_getElem? (i := 99) (by decide +kernel)) rfl
theorem jw_948 : Cond.methodLink RX11 334 yJ0_charAt_5068e ∈ jj_G := jj_t8 (List.mem_of_getElem? (i := 84) (by decide +kernel)) rfl
theorem jw_949 : Cond.code yX11_print cX11_print 2 none ∈ jj_G := jj_t9 (List.mem_of_getElem? (i := 43) (by decide +kernel)) rfl
theorem jw_950 : Cond.methodLink RX11 453 yX11_print ∈ jj_G := jj_t9 (List.mem_of_getElem? (i := 40) (by decide +kernel)) rfl
theorem jw_951 : Cond.instanceMethod yX11_print ∈ jj_G := jj_t9 (List.mem_of_getElem? (i := 42) (by decide +kernel)) rfl
theorem jw_952 : Cond.selects RX11 yX11_print yX11_print ∈ jj_G := jj_pv (q := (yX11_print, 25)) (by decide +kernel)
theorem jn_X11_print : jj_N yX11_print 1 := by unfold jj_N; decide +kernel
theorem jw_954 : Cond.code yX11_printWord cX11_printWord 3 none ∈ jj_G := jj_t9 (List.mem_of_getElem? (i := 39) (by decide +kernel)) rfl
theorem jw_955 : Cond.methodLink RX11 465 yX11_printWord ∈ jj_G := jj_t9 (List.mem_of_getElem? (i := 36) (by decide +kernel)) rfl
theorem jw_956 : Cond.instanceMethod yX11_printWord ∈ jj_G := jj_t9 (List.mem_of_getElem? (i := 38) (by decide +kernel)) rfl
theorem jw_957 : Cond.selects RX11 yX11_printWord yX11_printWord ∈ jj_G := jj_pv (q := (yX11_printWord, 25)) (by decide +kernel)
theorem jn_X11_printWord : jj_N yX11_printWord 1 := by unfold jj_N; decide +kernel
theorem jw_959 : Cond.constantLong RX11 457 (10) ∈ jj_G := jj_t9 (List.mem_of_getElem? (i := 48) (by decide +kernel)) rfl
theorem jw_960 : Cond.code yX11_printNumber cX11_printNumber 3 none ∈ jj_G := jj_t9 (List.mem_of_getElem? (i := 47) (by decide +kernel)) rfl
theorem jw_961 : Cond.methodLink RX11 459 yX11_printNumber ∈ jj_G := jj_t9 (List.mem_of_getElem? (i := 44) (by decide +kernel)) rfl
theorem jw_962 : Cond.instanceMethod yX11_printNumber ∈ jj_G := jj_t9 (List.mem_of_getElem? (i := 46) (by decide +kernel)) rfl
theorem jw_963 : Cond.selects RX11 yX11_printNumber yX11_printNumber ∈ jj_G := jj_pv (q := (yX11_printNumber, 25)) (by decide +kernel)
theorem jn_X11_printNumber : jj_N yX11_printNumber 1 := by unfold jj_N; decide +kernel
theorem jw_965 : Cond.code yX11_writeReport cX11_writeReport 2 (some .int) ∈ jj_G := jj_t9 (List.mem_of_getElem? (i := 34) (by decide +kernel)) rfl
theorem jw_966 : Cond.code yX10_undoDepth cX10_undoDepth 1 (some .int) ∈ jj_G := jj_t4 (List.mem_of_getElem? (i := 148) (by decide +kernel)) rfl
theorem jw_967 : Cond.code yX11_undoDepth cX11_undoDepth 1 (some .int) ∈ jj_G := jj_t7 (List.mem_of_getElem? (i := 6) (by decide +kernel)) rfl
theorem jw_968 : Cond.classLink RL 8 RX10 ∈ jj_G := jj_t1 (List.mem_of_getElem? (i := 27) (by decide +kernel)) rfl
theorem jw_969 : Cond.instantiable RX10 10 ∈ jj_G := jj_t1 (List.mem_of_getElem? (i := 28) (by decide +kernel)) rfl
theorem jw_970 : Cond.methodLink RL 116 yX10_init ∈ jj_G := jj_t1 (List.mem_of_getElem? (i := 29) (by decide +kernel)) rfl
theorem jw_971 : Cond.instanceMethod yX10_init ∈ jj_G := jj_t1 (List.mem_of_getElem? (i := 30) (by decide +kernel)) rfl
theorem jn_X10_init : jj_N yX10_init 0 := by unfold jj_N; decide +kernel
theorem jw_973 : Cond.classLink RL 117 RX11 ∈ jj_G := jj_t6 (List.mem_of_getElem? (i := 144) (by decide +kernel)) rfl
theorem jw_974 : Cond.instantiable RX11 25 ∈ jj_G := jj_t6 (List.mem_of_getElem? (i := 145) (by decide +kernel)) rfl
theorem jw_975 : Cond.methodLink RL 119 yX11_init ∈ jj_G := jj_t6 (List.mem_of_getElem? (i := 146) (by decide +kernel)) rfl
theorem jw_976 : Cond.instanceMethod yX11_init ∈ jj_G := jj_t6 (List.mem_of_getElem? (i := 147) (by decide +kernel)) rfl
theorem jn_X11_init : jj_N yX11_init 0 := by unfold jj_N; decide +kernel
theorem jw_978 : Cond.arrayClass .double ∈ jj_G := jj_t9 (List.mem_of_getElem? (i := 60) (by decide +kernel)) rfl
theorem jw_979 : Cond.methodLink RL 7 yX10_appendText ∈ jj_G := jj_t4 (List.mem_of_getElem? (i := 153) (by decide +kernel)) rfl
theorem jw_980 : Cond.instanceMethod yX10_appendText ∈ jj_G := jj_t4 (List.mem_of_getElem? (i := 154) (by decide +kernel)) rfl
theorem jw_981 : Cond.selects RX10 yX10_appendText yX10_appendText ∈ jj_G := jj_t4 (List.mem_of_getElem? (i := 155) (by decide +kernel)) rfl
theorem jn_X10_appendText : jj_N yX10_appendText 5 := by unfold jj_N; decide +kernel
theorem jw_983 : Cond.codeWith yL_appendText cL_appendText 8 (some .int) [(0, 16, 19, 13)] ∈ jj_G := jj_t4 (List.mem_of_getElem? (i := 151) (by decide +kernel)) rfl
theorem jw_984 : Cond.methodLink RL 120 yL_appendText ∈ jj_G := jj_t4 (List.mem_of_getElem? (i := 149) (by decide +kernel)) rfl
theorem jw_985 : Cond.initialized RL ∈ jj_G := jj_t1 (List.mem_of_getElem? (i := 0) (by decide +kernel)) rfl
theorem jw_986 : Cond.static yL_appendText ∈ jj_G := jj_t4 (List.mem_of_getElem? (i := 150) (by decide +kernel)) rfl
theorem jn_L_appendText : jj_N yL_appendText 7 := by unfold jj_N; decide +kernel
theorem jw_988 : Cond.methodLink RL 125 yX11_appendText ∈ jj_G := jj_t8 (List.mem_of_getElem? (i := 38) (by decide +kernel)) rfl
theorem jw_989 : Cond.instanceMethod yX11_appendText ∈ jj_G := jj_t8 (List.mem_of_getElem? (i := 39) (by decide +kernel)) rfl
theorem jw_990 : Cond.selects RX11 yX11_appendText yX11_appendText ∈ jj_G := jj_t8 (List.mem_of_getElem? (i := 40) (by decide +kernel)) rfl
theorem jn_X11_appendText : jj_N yX11_appendText 5 := by unfold jj_N; decide +kernel
theorem jw_992 : Cond.code yX11_thrown cX11_thrown 1 (some .int) ∈ jj_G := jj_t6 (List.mem_of_getElem? (i := 234) (by decide +kernel)) rfl
theorem jw_993 : Cond.methodLink RL 126 yX11_thrown ∈ jj_G := jj_t6 (List.mem_of_getElem? (i := 231) (by decide +kernel)) rfl
theorem jw_994 : Cond.instanceMethod yX11_thrown ∈ jj_G := jj_t6 (List.mem_of_getElem? (i := 232) (by decide +kernel)) rfl
theorem jw_995 : Cond.selects RX11 yX11_thrown yX11_thrown ∈ jj_G := jj_t6 (List.mem_of_getElem? (i := 233) (by decide +kernel)) rfl
theorem jn_X11_thrown : jj_N yX11_thrown 0 := by unfold jj_N; decide +kernel
theorem jw_997 : Cond.methodLink RL 15 yX10_truncateText ∈ jj_G := jj_t4 (List.mem_of_getElem? (i := 235) (by decide +kernel)) rfl
theorem jw_998 : Cond.instanceMethod yX10_truncateText ∈ jj_G := jj_t4 (List.mem_of_getElem? (i := 236) (by decide +kernel)) rfl
theorem jw_999 : Cond.selects RX10 yX10_truncateText yX10_truncateText ∈ jj_G := jj_t4 (List.mem_of_getElem? (i := 237) (by decide +kernel)) rfl
theorem jn_X10_truncateText : jj_N yX10_truncateText 1 := by unfold jj_N; decide +kernel
theorem jw_1001 : Cond.classLink RL 19 "java/lang/IllegalArgumentException" ∈ jj_G := jj_t4 (List.mem_of_getElem? (i := 234) (by decide +kernel)) rfl
theorem jw_1002 : Cond.codeWith yL_truncateText cL_truncateText 4 (some .int) [(0, 9, 12, 19)] ∈ jj_G := jj_t4 (List.mem_of_getElem? (i := 233) (by decide +kernel)) rfl
theorem jw_1003 : Cond.methodLink RL 129 yL_truncateText ∈ jj_G := jj_t4 (List.mem_of_getElem? (i := 231) (by decide +kernel)) rfl
theorem jw_1004 : Cond.static yL_truncateText ∈ jj_G := jj_t4 (List.mem_of_getElem? (i := 232) (by decide +kernel)) rfl
theorem jn_L_truncateText : jj_N yL_truncateText 3 := by unfold jj_N; decide +kernel
theorem jw_1006 : Cond.methodLink RL 132 yX11_truncateText ∈ jj_G := jj_t8 (List.mem_of_getElem? (i := 46) (by decide +kernel)) rfl
theorem jw_1007 : Cond.instanceMethod yX11_truncateText ∈ jj_G := jj_t8 (List.mem_of_getElem? (i := 47) (by decide +kernel)) rfl
theorem jw_1008 : Cond.selects RX11 yX11_truncateText yX11_truncateText ∈ jj_G := jj_t8 (List.mem_of_getElem? (i := 48) (by decide +kernel)) rfl
theorem jn_X11_truncateText : jj_N yX11_truncateText 1 := by unfold jj_N; decide +kernel
theorem jw_1010 : Cond.methodLink RL 133 yX10_parseFund ∈ jj_G := jj_t2 (List.mem_of_getElem? (i := 128) (by decide +kernel)) rfl
theorem jw_1011 : Cond.instanceMethod yX10_parseFund ∈ jj_G := jj_t2 (List.mem_of_getElem? (i := 129) (by decide +kernel)) rfl
theorem jw_1012 : Cond.selects RX10 yX10_parseFund yX10_parseFund ∈ jj_G := jj_t2 (List.mem_of_getElem? (i := 130) (by decide +kernel)) rfl
theorem jn_X10_parseFund : jj_N yX10_parseFund 0 := by unfold jj_N; decide +kernel
theorem jw_1014 : Cond.methodLink RL 136 yX11_parseFund ∈ jj_G := jj_t8 (List.mem_of_getElem? (i := 50) (by decide +kernel)) rfl
theorem jw_1015 : Cond.instanceMethod yX11_parseFund ∈ jj_G := jj_t8 (List.mem_of_getElem? (i := 51) (by decide +kernel)) rfl
theorem jw_1016 : Cond.selects RX11 yX11_parseFund yX11_parseFund ∈ jj_G := jj_t8 (List.mem_of_getElem? (i := 52) (by decide +kernel)) rfl
theorem jn_X11_parseFund : jj_N yX11_parseFund 0 := by unfold jj_N; decide +kernel
theorem jw_1018 : Cond.methodLink RL 137 yX10_errorCode ∈ jj_G := jj_t3 (List.mem_of_getElem? (i := 159) (by decide +kernel)) rfl
theorem jw_1019 : Cond.instanceMethod yX10_errorCode ∈ jj_G := jj_t3 (List.mem_of_getElem? (i := 160) (by decide +kernel)) rfl
theorem jw_1020 : Cond.selects RX10 yX10_errorCode yX10_errorCode ∈ jj_G := jj_t3 (List.mem_of_getElem? (i := 161) (by decide +kernel)) rfl
theorem jn_X10_errorCode : jj_N yX10_errorCode 0 := by unfold jj_N; decide +kernel
theorem jw_1022 : Cond.methodLink RL 140 yX11_errorCode ∈ jj_G := jj_t8 (List.mem_of_getElem? (i := 107) (by decide +kernel)) rfl
theorem jw_1023 : Cond.instanceMethod yX11_errorCode ∈ jj_G := jj_t8 (List.mem_of_getElem? (i := 108) (by decide +kernel)) rfl
theorem jw_1024 : Cond.selects RX11 yX11_errorCode yX11_errorCode ∈ jj_G := jj_t8 (List.mem_of_getElem? (i := 109) (by decide +kernel)) rfl
theorem jn_X11_errorCode : jj_N yX11_errorCode 0 := by unfold jj_N; decide +kernel
theorem jw_1026 : Cond.methodLink RL 141 yX10_errorPosition ∈ jj_G := jj_t3 (List.mem_of_getElem? (i := 163) (by decide +kernel)) rfl
theorem jw_1027 : Cond.instanceMethod yX10_errorPosition ∈ jj_G := jj_t3 (List.mem_of_getElem? (i := 164) (by decide +kernel)) rfl
theorem jw_1028 : Cond.selects RX10 yX10_errorPosition yX10_errorPosition ∈ jj_G := jj_t3 (List.mem_of_getElem? (i := 165) (by decide +kernel)) rfl
theorem jn_X10_errorPosition : jj_N yX10_errorPosition 0 := by unfold jj_N; decide +kernel
theorem jw_1030 : Cond.methodLink RL 144 yX11_errorPosition ∈ jj_G := jj_t8 (List.mem_of_getElem? (i := 111) (by decide +kernel)) rfl
theorem jw_1031 : Cond.instanceMethod yX11_errorPosition ∈ jj_G := jj_t8 (List.mem_of_getElem? (i := 112) (by decide +kernel)) rfl
theorem jw_1032 : Cond.selects RX11 yX11_errorPosition yX11_errorPosition ∈ jj_G := jj_t8 (List.mem_of_getElem? (i := 113) (by decide +kernel)) rfl
theorem jn_X11_errorPosition : jj_N yX11_errorPosition 0 := by unfold jj_N; decide +kernel
theorem jw_1034 : Cond.methodLink RL 21 yX10_subscribe ∈ jj_G := jj_t5 (List.mem_of_getElem? (i := 42) (by decide +kernel)) rfl
theorem jw_1035 : Cond.instanceMethod yX10_subscribe ∈ jj_G := jj_t5 (List.mem_of_getElem? (i := 43) (by decide +kernel)) rfl
theorem jw_1036 : Cond.selects RX10 yX10_subscribe yX10_subscribe ∈ jj_G := jj_t5 (List.mem_of_getElem? (i := 44) (by decide +kernel)) rfl
theorem jn_X10_subscribe : jj_N yX10_subscribe 2 := by unfold jj_N; decide +kernel
theorem jw_1038 : Cond.classLink RL 25 "java/lang/IndexOutOfBoundsException" ∈ jj_G := jj_t5 (List.mem_of_getElem? (i := 18) (by decide +kernel)) rfl
theorem jw_1039 : Cond.codeWith yL_subscribe cL_subscribe 5 (some .int) [(0, 10, 13, 25), (0, 10, 17, 19), (0, 10, 21, 13)] ∈ jj_G := jj_t5 (List.mem_of_getElem? (i := 17) (by decide +kernel)) rfl
theorem jw_1040 : Cond.methodLink RL 145 yL_subscribe ∈ jj_G := jj_t5 (List.mem_of_getElem? (i := 15) (by decide +kernel)) rfl
theorem jw_1041 : Cond.static yL_subscribe ∈ jj_G := jj_t5 (List.mem_of_getElem? (i := 16) (by decide +kernel)) rfl
theorem jn_L_subscribe : jj_N yL_subscribe 4 := by unfold jj_N; decide +kernel
theorem jw_1043 : Cond.methodLink RL 148 yX11_subscribe ∈ jj_G := jj_t7 (List.mem_of_getElem? (i := 139) (by decide +kernel)) rfl
theorem jw_1044 : Cond.instanceMethod yX11_subscribe ∈ jj_G := jj_t7 (List.mem_of_getElem? (i := 140) (by decide +kernel)) rfl
theorem jw_1045 : Cond.selects RX11 yX11_subscribe yX11_subscribe ∈ jj_G := jj_t7 (List.mem_of_getElem? (i := 141) (by decide +kernel)) rfl
theorem jn_X11_subscribe : jj_N yX11_subscribe 2 := by unfold jj_N; decide +kernel
theorem jw_1047 : Cond.methodLink RL 27 yX10_redeem ∈ jj_G := jj_t5 (List.mem_of_getElem? (i := 69) (by decide +kernel)) rfl
theorem jw_1048 : Cond.instanceMethod yX10_redeem ∈ jj_G := jj_t5 (List.mem_of_getElem? (i := 70) (by decide +kernel)) rfl
theorem jw_1049 : Cond.selects RX10 yX10_redeem yX10_redeem ∈ jj_G := jj_t5 (List.mem_of_getElem? (i := 71) (by decide +kernel)) rfl
theorem jn_X10_redeem : jj_N yX10_redeem 2 := by unfold jj_N; decide +kernel
theorem jw_1051 : Cond.classLink RL 13 "java/lang/IllegalStateException" ∈ jj_G := jj_t4 (List.mem_of_getElem? (i := 152) (by decide +kernel)) rfl
theorem jw_1052 : Cond.codeWith yL_redeem cL_redeem 5 (some .int) [(0, 10, 13, 25), (0, 10, 17, 19), (0, 10, 21, 13)] ∈ jj_G := jj_t5 (List.mem_of_getElem? (i := 68) (by decide +kernel)) rfl
theorem jw_1053 : Cond.methodLink RL 149 yL_redeem ∈ jj_G := jj_t5 (List.mem_of_getElem? (i := 66) (by decide +kernel)) rfl
theorem jw_1054 : Cond.static yL_redeem ∈ jj_G := jj_t5 (List.mem_of_getElem? (i := 67) (by decide +kernel)) rfl
theorem jn_L_redeem : jj_N yL_redeem 4 := by unfold jj_N; decide +kernel
theorem jw_1056 : Cond.methodLink RL 151 yX11_redeem ∈ jj_G := jj_t7 (List.mem_of_getElem? (i := 168) (by decide +kernel)) rfl
theorem jw_1057 : Cond.instanceMethod yX11_redeem ∈ jj_G := jj_t7 (List.mem_of_getElem? (i := 169) (by decide +kernel)) rfl
theorem jw_1058 : Cond.selects RX11 yX11_redeem yX11_redeem ∈ jj_G := jj_t7 (List.mem_of_getElem? (i := 170) (by decide +kernel)) rfl
theorem jn_X11_redeem : jj_N yX11_redeem 2 := by unfold jj_N; decide +kernel
theorem jw_1060 : Cond.methodLink RL 30 yX10_withdraw ∈ jj_G := jj_t5 (List.mem_of_getElem? (i := 77) (by decide +kernel)) rfl
theorem jw_1061 : Cond.instanceMethod yX10_withdraw ∈ jj_G := jj_t5 (List.mem_of_getElem? (i := 78) (by decide +kernel)) rfl
theorem jw_1062 : Cond.selects RX10 yX10_withdraw yX10_withdraw ∈ jj_G := jj_t5 (List.mem_of_getElem? (i := 79) (by decide +kernel)) rfl
theorem jn_X10_withdraw : jj_N yX10_withdraw 1 := by unfold jj_N; decide +kernel
theorem jw_1064 : Cond.codeWith yL_withdraw cL_withdraw 4 (some .int) [(0, 8, 11, 25)] ∈ jj_G := jj_t5 (List.mem_of_getElem? (i := 76) (by decide +kernel)) rfl
theorem jw_1065 : Cond.methodLink RL 152 yL_withdraw ∈ jj_G := jj_t5 (List.mem_of_getElem? (i := 74) (by decide +kernel)) rfl
theorem jw_1066 : Cond.static yL_withdraw ∈ jj_G := jj_t5 (List.mem_of_getElem? (i := 75) (by decide +kernel)) rfl
theorem jn_L_withdraw : jj_N yL_withdraw 3 := by unfold jj_N; decide +kernel
theorem jw_1068 : Cond.methodLink RL 154 yX11_withdraw ∈ jj_G := jj_t7 (List.mem_of_getElem? (i := 184) (by decide +kernel)) rfl
theorem jw_1069 : Cond.instanceMethod yX11_withdraw ∈ jj_G := jj_t7 (List.mem_of_getElem? (i := 185) (by decide +kernel)) rfl
theorem jw_1070 : Cond.selects RX11 yX11_withdraw yX11_withdraw ∈ jj_G := jj_t7 (List.mem_of_getElem? (i := 186) (by decide +kernel)) rfl
theorem jn_X11_withdraw : jj_N yX11_withdraw 1 := by unfold jj_N; decide +kernel
theorem jw_1072 : Cond.methodLink RL 155 yX10_deal ∈ jj_G := jj_t3 (List.mem_of_getElem? (i := 167) (by decide +kernel)) rfl
theorem jw_1073 : Cond.instanceMethod yX10_deal ∈ jj_G := jj_t3 (List.mem_of_getElem? (i := 168) (by decide +kernel)) rfl
theorem jw_1074 : Cond.selects RX10 yX10_deal yX10_deal ∈ jj_G := jj_t3 (List.mem_of_getElem? (i := 169) (by decide +kernel)) rfl
theorem jn_X10_deal : jj_N yX10_deal 0 := by unfold jj_N; decide +kernel
theorem jw_1076 : Cond.methodLink RL 158 yX11_deal ∈ jj_G := jj_t7 (List.mem_of_getElem? (i := 7) (by decide +kernel)) rfl
theorem jw_1077 : Cond.instanceMethod yX11_deal ∈ jj_G := jj_t7 (List.mem_of_getElem? (i := 8) (by decide +kernel)) rfl
theorem jw_1078 : Cond.selects RX11 yX11_deal yX11_deal ∈ jj_G := jj_t7 (List.mem_of_getElem? (i := 9) (by decide +kernel)) rfl
theorem jn_X11_deal : jj_N yX11_deal 0 := by unfold jj_N; decide +kernel
theorem jw_1080 : Cond.methodLink RL 34 yX10_earn ∈ jj_G := jj_t5 (List.mem_of_getElem? (i := 93) (by decide +kernel)) rfl
theorem jw_1081 : Cond.instanceMethod yX10_earn ∈ jj_G := jj_t5 (List.mem_of_getElem? (i := 94) (by decide +kernel)) rfl
theorem jw_1082 : Cond.selects RX10 yX10_earn yX10_earn ∈ jj_G := jj_t5 (List.mem_of_getElem? (i := 95) (by decide +kernel)) rfl
theorem jn_X10_earn : jj_N yX10_earn 1 := by unfold jj_N; decide +kernel
theorem jw_1084 : Cond.codeWith yL_earn cL_earn 4 (some .int) [(0, 8, 11, 19), (0, 8, 14, 13)] ∈ jj_G := jj_t5 (List.mem_of_getElem? (i := 92) (by decide +kernel)) rfl
theorem jw_1085 : Cond.methodLink RL 159 yL_earn ∈ jj_G := jj_t5 (List.mem_of_getElem? (i := 90) (by decide +kernel)) rfl
theorem jw_1086 : Cond.static yL_earn ∈ jj_G := jj_t5 (List.mem_of_getElem? (i := 91) (by decide +kernel)) rfl
theorem jn_L_earn : jj_N yL_earn 3 := by unfold jj_N; decide +kernel
theorem jw_1088 : Cond.methodLink RL 161 yX11_earn ∈ jj_G := jj_t7 (List.mem_of_getElem? (i := 192) (by decide +kernel)) rfl
theorem jw_1089 : Cond.instanceMethod yX11_earn ∈ jj_G := jj_t7 (List.mem_of_getElem? (i := 193) (by decide +kernel)) rfl
theorem jw_1090 : Cond.selects RX11 yX11_earn yX11_earn ∈ jj_G := jj_t7 (List.mem_of_getElem? (i := 194) (by decide +kernel)) rfl
theorem jn_X11_earn : jj_N yX11_earn 1 := by unfold jj_N; decide +kernel
theorem jw_1092 : Cond.methodLink RL 37 yX10_passDays ∈ jj_G := jj_t5 (List.mem_of_getElem? (i := 102) (by decide +kernel)) rfl
theorem jw_1093 : Cond.instanceMethod yX10_passDays ∈ jj_G := jj_t5 (List.mem_of_getElem? (i := 103) (by decide +kernel)) rfl
theorem jw_1094 : Cond.selects RX10 yX10_passDays yX10_passDays ∈ jj_G := jj_t5 (List.mem_of_getElem? (i := 104) (by decide +kernel)) rfl
theorem jn_X10_passDays : jj_N yX10_passDays 1 := by unfold jj_N; decide +kernel
theorem jw_1096 : Cond.codeWith yL_passDays cL_passDays 4 (some .int) [(0, 8, 11, 19)] ∈ jj_G := jj_t5 (List.mem_of_getElem? (i := 101) (by decide +kernel)) rfl
theorem jw_1097 : Cond.methodLink RL 162 yL_passDays ∈ jj_G := jj_t5 (List.mem_of_getElem? (i := 99) (by decide +kernel)) rfl
theorem jw_1098 : Cond.static yL_passDays ∈ jj_G := jj_t5 (List.mem_of_getElem? (i := 100) (by decide +kernel)) rfl
theorem jn_L_passDays : jj_N yL_passDays 3 := by unfold jj_N; decide +kernel
theorem jw_1100 : Cond.methodLink RL 164 yX11_passDays ∈ jj_G := jj_t7 (List.mem_of_getElem? (i := 212) (by decide +kernel)) rfl
theorem jw_1101 : Cond.instanceMethod yX11_passDays ∈ jj_G := jj_t7 (List.mem_of_getElem? (i := 213) (by decide +kernel)) rfl
theorem jw_1102 : Cond.selects RX11 yX11_passDays yX11_passDays ∈ jj_G := jj_t7 (List.mem_of_getElem? (i := 214) (by decide +kernel)) rfl
theorem jn_X11_passDays : jj_N yX11_passDays 1 := by unfold jj_N; decide +kernel
theorem jw_1104 : Cond.methodLink RL 165 yX10_crystallize ∈ jj_G := jj_t3 (List.mem_of_getElem? (i := 175) (by decide +kernel)) rfl
theorem jw_1105 : Cond.instanceMethod yX10_crystallize ∈ jj_G := jj_t3 (List.mem_of_getElem? (i := 176) (by decide +kernel)) rfl
theorem jw_1106 : Cond.selects RX10 yX10_crystallize yX10_crystallize ∈ jj_G := jj_t3 (List.mem_of_getElem? (i := 177) (by decide +kernel)) rfl
theorem jn_X10_crystallize : jj_N yX10_crystallize 0 := by unfold jj_N; decide +kernel
theorem jw_1108 : Cond.methodLink RL 169 yX11_crystallize ∈ jj_G := jj_t7 (List.mem_of_getElem? (i := 222) (by decide +kernel)) rfl
theorem jw_1109 : Cond.instanceMethod yX11_crystallize ∈ jj_G := jj_t7 (List.mem_of_getElem? (i := 223) (by decide +kernel)) rfl
theorem jw_1110 : Cond.selects RX11 yX11_crystallize yX11_crystallize ∈ jj_G := jj_t7 (List.mem_of_getElem? (i := 224) (by decide +kernel)) rfl
theorem jn_X11_crystallize : jj_N yX11_crystallize 0 := by unfold jj_N; decide +kernel
theorem jw_1112 : Cond.methodLink RL 170 yX10_merge ∈ jj_G := jj_t3 (List.mem_of_getElem? (i := 197) (by decide +kernel)) rfl
theorem jw_1113 : Cond.instanceMethod yX10_merge ∈ jj_G := jj_t3 (List.mem_of_getElem? (i := 198) (by decide +kernel)) rfl
theorem jw_1114 : Cond.selects RX10 yX10_merge yX10_merge ∈ jj_G := jj_t3 (List.mem_of_getElem? (i := 199) (by decide +kernel)) rfl
theorem jn_X10_merge : jj_N yX10_merge 0 := by unfold jj_N; decide +kernel
theorem jw_1116 : Cond.methodLink RL 173 yX11_merge ∈ jj_G := jj_t8 (List.mem_of_getElem? (i := 6) (by decide +kernel)) rfl
theorem jw_1117 : Cond.instanceMethod yX11_merge ∈ jj_G := jj_t8 (List.mem_of_getElem? (i := 7) (by decide +kernel)) rfl
theorem jw_1118 : Cond.selects RX11 yX11_merge yX11_merge ∈ jj_G := jj_t8 (List.mem_of_getElem? (i := 8) (by decide +kernel)) rfl
theorem jn_X11_merge : jj_N yX11_merge 0 := by unfold jj_N; decide +kernel
theorem jw_1120 : Cond.methodLink RL 40 yX10_transfer ∈ jj_G := jj_t5 (List.mem_of_getElem? (i := 111) (by decide +kernel)) rfl
theorem jw_1121 : Cond.instanceMethod yX10_transfer ∈ jj_G := jj_t5 (List.mem_of_getElem? (i := 112) (by decide +kernel)) rfl
theorem jw_1122 : Cond.selects RX10 yX10_transfer yX10_transfer ∈ jj_G := jj_t5 (List.mem_of_getElem? (i := 113) (by decide +kernel)) rfl
theorem jn_X10_transfer : jj_N yX10_transfer 3 := by unfold jj_N; decide +kernel
theorem jw_1124 : Cond.codeWith yL_transfer cL_transfer 6 (some .int) [(0, 11, 14, 25), (0, 11, 18, 19), (0, 11, 22, 13)] ∈ jj_G := jj_t5 (List.mem_of_getElem? (i := 110) (by decide +kernel)) rfl
theorem jw_1125 : Cond.methodLink RL 174 yL_transfer ∈ jj_G := jj_t5 (List.mem_of_getElem? (i := 108) (by decide +kernel)) rfl
theorem jw_1126 : Cond.static yL_transfer ∈ jj_G := jj_t5 (List.mem_of_getElem? (i := 109) (by decide +kernel)) rfl
theorem jn_L_transfer : jj_N yL_transfer 5 := by unfold jj_N; decide +kernel
theorem jw_1128 : Cond.methodLink RL 177 yX11_transfer ∈ jj_G := jj_t8 (List.mem_of_getElem? (i := 18) (by decide +kernel)) rfl
theorem jw_1129 : Cond.instanceMethod yX11_transfer ∈ jj_G := jj_t8 (List.mem_of_getElem? (i := 19) (by decide +kernel)) rfl
theorem jw_1130 : Cond.selects RX11 yX11_transfer yX11_transfer ∈ jj_G := jj_t8 (List.mem_of_getElem? (i := 20) (by decide +kernel)) rfl
theorem jn_X11_transfer : jj_N yX11_transfer 3 := by unfold jj_N; decide +kernel
theorem jw_1132 : Cond.methodLink RL 44 yX10_setGate ∈ jj_G := jj_t5 (List.mem_of_getElem? (i := 137) (by decide +kernel)) rfl
theorem jw_1133 : Cond.instanceMethod yX10_setGate ∈ jj_G := jj_t5 (List.mem_of_getElem? (i := 138) (by decide +kernel)) rfl
theorem jw_1134 : Cond.selects RX10 yX10_setGate yX10_setGate ∈ jj_G := jj_t5 (List.mem_of_getElem? (i := 139) (by decide +kernel)) rfl
theorem jn_X10_setGate : jj_N yX10_setGate 1 := by unfold jj_N; decide +kernel
theorem jw_1136 : Cond.codeWith yL_setGate cL_setGate 4 (some .int) [(0, 9, 12, 19)] ∈ jj_G := jj_t5 (List.mem_of_getElem? (i := 136) (by decide +kernel)) rfl
theorem jw_1137 : Cond.methodLink RL 178 yL_setGate ∈ jj_G := jj_t5 (List.mem_of_getElem? (i := 134) (by decide +kernel)) rfl
theorem jw_1138 : Cond.static yL_setGate ∈ jj_G := jj_t5 (List.mem_of_getElem? (i := 135) (by decide +kernel)) rfl
theorem jn_L_setGate : jj_N yL_setGate 3 := by unfold jj_N; decide +kernel
theorem jw_1140 : Cond.methodLink RL 180 yX11_setGate ∈ jj_G := jj_t8 (List.mem_of_getElem? (i := 34) (by decide +kernel)) rfl
theorem jw_1141 : Cond.instanceMethod yX11_setGate ∈ jj_G := jj_t8 (List.mem_of_getElem? (i := 35) (by decide +kernel)) rfl
theorem jw_1142 : Cond.selects RX11 yX11_setGate yX11_setGate ∈ jj_G := jj_t8 (List.mem_of_getElem? (i := 36) (by decide +kernel)) rfl
theorem jn_X11_setGate : jj_N yX11_setGate 1 := by unfold jj_N; decide +kernel
theorem jw_1144 : Cond.methodLink RL 181 yX10_runScript ∈ jj_G := jj_t3 (List.mem_of_getElem? (i := 207) (by decide +kernel)) rfl
theorem jw_1145 : Cond.instanceMethod yX10_runScript ∈ jj_G := jj_t3 (List.mem_of_getElem? (i := 208) (by decide +kernel)) rfl
theorem jw_1146 : Cond.selects RX10 yX10_runScript yX10_runScript ∈ jj_G := jj_t3 (List.mem_of_getElem? (i := 209) (by decide +kernel)) rfl
theorem jn_X10_runScript : jj_N yX10_runScript 0 := by unfold jj_N; decide +kernel
theorem jw_1148 : Cond.methodLink RL 184 yX11_runScript ∈ jj_G := jj_t8 (List.mem_of_getElem? (i := 115) (by decide +kernel)) rfl
theorem jw_1149 : Cond.instanceMethod yX11_runScript ∈ jj_G := jj_t8 (List.mem_of_getElem? (i := 116) (by decide +kernel)) rfl
theorem jw_1150 : Cond.selects RX11 yX11_runScript yX11_runScript ∈ jj_G := jj_t8 (List.mem_of_getElem? (i := 117) (by decide +kernel)) rfl
theorem jn_X11_runScript : jj_N yX11_runScript 0 := by unfold jj_N; decide +kernel
theorem jw_1152 : Cond.methodLink RL 47 yX10_count ∈ jj_G := jj_t5 (List.mem_of_getElem? (i := 145) (by decide +kernel)) rfl
theorem jw_1153 : Cond.instanceMethod yX10_count ∈ jj_G := jj_t5 (List.mem_of_getElem? (i := 146) (by decide +kernel)) rfl
theorem jw_1154 : Cond.selects RX10 yX10_count yX10_count ∈ jj_G := jj_t5 (List.mem_of_getElem? (i := 147) (by decide +kernel)) rfl
theorem jn_X10_count : jj_N yX10_count 1 := by unfold jj_N; decide +kernel
theorem jw_1156 : Cond.codeWith yL_count cL_count 4 (some .int) [(0, 9, 12, 19)] ∈ jj_G := jj_t5 (List.mem_of_getElem? (i := 144) (by decide +kernel)) rfl
theorem jw_1157 : Cond.methodLink RL 185 yL_count ∈ jj_G := jj_t5 (List.mem_of_getElem? (i := 142) (by decide +kernel)) rfl
theorem jw_1158 : Cond.static yL_count ∈ jj_G := jj_t5 (List.mem_of_getElem? (i := 143) (by decide +kernel)) rfl
theorem jn_L_count : jj_N yL_count 3 := by unfold jj_N; decide +kernel
theorem jw_1160 : Cond.methodLink RL 187 yX11_count ∈ jj_G := jj_t8 (List.mem_of_getElem? (i := 149) (by decide +kernel)) rfl
theorem jw_1161 : Cond.instanceMethod yX11_count ∈ jj_G := jj_t8 (List.mem_of_getElem? (i := 150) (by decide +kernel)) rfl
theorem jw_1162 : Cond.selects RX11 yX11_count yX11_count ∈ jj_G := jj_t8 (List.mem_of_getElem? (i := 151) (by decide +kernel)) rfl
theorem jn_X11_count : jj_N yX11_count 1 := by unfold jj_N; decide +kernel
theorem jw_1164 : Cond.methodLink RL 188 yX10_netAssets ∈ jj_G := jj_t4 (List.mem_of_getElem? (i := 73) (by decide +kernel)) rfl
theorem jw_1165 : Cond.instanceMethod yX10_netAssets ∈ jj_G := jj_t4 (List.mem_of_getElem? (i := 74) (by decide +kernel)) rfl
theorem jw_1166 : Cond.selects RX10 yX10_netAssets yX10_netAssets ∈ jj_G := jj_t4 (List.mem_of_getElem? (i := 75) (by decide +kernel)) rfl
theorem jn_X10_netAssets : jj_N yX10_netAssets 0 := by unfold jj_N; decide +kernel
theorem jw_1168 : Cond.methodLink RL 191 yX11_netAssets ∈ jj_G := jj_t8 (List.mem_of_getElem? (i := 154) (by decide +kernel)) rfl
theorem jw_1169 : Cond.instanceMethod yX11_netAssets ∈ jj_G := jj_t8 (List.mem_of_getElem? (i := 155) (by decide +kernel)) rfl
theorem jw_1170 : Cond.selects RX11 yX11_netAssets yX11_netAssets ∈ jj_G := jj_t8 (List.mem_of_getElem? (i := 156) (by decide +kernel)) rfl
theorem jn_X11_netAssets : jj_N yX11_netAssets 0 := by unfold jj_N; decide +kernel
theorem jw_1172 : Cond.methodLink RL 50 yX10_account ∈ jj_G := jj_t5 (List.mem_of_getElem? (i := 153) (by decide +kernel)) rfl
theorem jw_1173 : Cond.instanceMethod yX10_account ∈ jj_G := jj_t5 (List.mem_of_getElem? (i := 154) (by decide +kernel)) rfl
theorem jw_1174 : Cond.selects RX10 yX10_account yX10_account ∈ jj_G := jj_t5 (List.mem_of_getElem? (i := 155) (by decide +kernel)) rfl
theorem jn_X10_account : jj_N yX10_account 1 := by unfold jj_N; decide +kernel
theorem jw_1176 : Cond.codeWith yL_account cL_account 4 (some .int) [(0, 8, 11, 19)] ∈ jj_G := jj_t5 (List.mem_of_getElem? (i := 152) (by decide +kernel)) rfl
theorem jw_1177 : Cond.methodLink RL 192 yL_account ∈ jj_G := jj_t5 (List.mem_of_getElem? (i := 150) (by decide +kernel)) rfl
theorem jw_1178 : Cond.static yL_account ∈ jj_G := jj_t5 (List.mem_of_getElem? (i := 151) (by decide +kernel)) rfl
theorem jn_L_account : jj_N yL_account 3 := by unfold jj_N; decide +kernel
theorem jw_1180 : Cond.methodLink RL 194 yX11_account ∈ jj_G := jj_t8 (List.mem_of_getElem? (i := 158) (by decide +kernel)) rfl
theorem jw_1181 : Cond.instanceMethod yX11_account ∈ jj_G := jj_t8 (List.mem_of_getElem? (i := 159) (by decide +kernel)) rfl
theorem jw_1182 : Cond.selects RX11 yX11_account yX11_account ∈ jj_G := jj_t8 (List.mem_of_getElem? (i := 160) (by decide +kernel)) rfl
theorem jn_X11_account : jj_N yX11_account 1 := by unfold jj_N; decide +kernel
theorem jw_1184 : Cond.methodLink RL 53 yX10_openSeries ∈ jj_G := jj_t5 (List.mem_of_getElem? (i := 161) (by decide +kernel)) rfl
theorem jw_1185 : Cond.instanceMethod yX10_openSeries ∈ jj_G := jj_t5 (List.mem_of_getElem? (i := 162) (by decide +kernel)) rfl
theorem jw_1186 : Cond.selects RX10 yX10_openSeries yX10_openSeries ∈ jj_G := jj_t5 (List.mem_of_getElem? (i := 163) (by decide +kernel)) rfl
theorem jn_X10_openSeries : jj_N yX10_openSeries 1 := by unfold jj_N; decide +kernel
theorem jw_1188 : Cond.codeWith yL_openSeries cL_openSeries 4 (some .int) [(0, 9, 12, 25)] ∈ jj_G := jj_t5 (List.mem_of_getElem? (i := 160) (by decide +kernel)) rfl
theorem jw_1189 : Cond.methodLink RL 195 yL_openSeries ∈ jj_G := jj_t5 (List.mem_of_getElem? (i := 158) (by decide +kernel)) rfl
theorem jw_1190 : Cond.static yL_openSeries ∈ jj_G := jj_t5 (List.mem_of_getElem? (i := 159) (by decide +kernel)) rfl
theorem jn_L_openSeries : jj_N yL_openSeries 3 := by unfold jj_N; decide +kernel
theorem jw_1192 : Cond.methodLink RL 197 yX11_openSeries ∈ jj_G := jj_t8 (List.mem_of_getElem? (i := 162) (by decide +kernel)) rfl
theorem jw_1193 : Cond.instanceMethod yX11_openSeries ∈ jj_G := jj_t8 (List.mem_of_getElem? (i := 163) (by decide +kernel)) rfl
theorem jw_1194 : Cond.selects RX11 yX11_openSeries yX11_openSeries ∈ jj_G := jj_t8 (List.mem_of_getElem? (i := 164) (by decide +kernel)) rfl
theorem jn_X11_openSeries : jj_N yX11_openSeries 1 := by unfold jj_N; decide +kernel
theorem jw_1196 : Cond.methodLink RL 56 yX10_seriesValue ∈ jj_G := jj_t5 (List.mem_of_getElem? (i := 169) (by decide +kernel)) rfl
theorem jw_1197 : Cond.instanceMethod yX10_seriesValue ∈ jj_G := jj_t5 (List.mem_of_getElem? (i := 170) (by decide +kernel)) rfl
theorem jw_1198 : Cond.selects RX10 yX10_seriesValue yX10_seriesValue ∈ jj_G := jj_t5 (List.mem_of_getElem? (i := 171) (by decide +kernel)) rfl
theorem jn_X10_seriesValue : jj_N yX10_seriesValue 2 := by unfold jj_N; decide +kernel
theorem jw_1200 : Cond.codeWith yL_seriesValue cL_seriesValue 5 (some .int) [(0, 9, 12, 25), (0, 9, 16, 19)] ∈ jj_G := jj_t5 (List.mem_of_getElem? (i := 168) (by decide +kernel)) rfl
theorem jw_1201 : Cond.methodLink RL 198 yL_seriesValue ∈ jj_G := jj_t5 (List.mem_of_getElem? (i := 166) (by decide +kernel)) rfl
theorem jw_1202 : Cond.static yL_seriesValue ∈ jj_G := jj_t5 (List.mem_of_getElem? (i := 167) (by decide +kernel)) rfl
theorem jn_L_seriesValue : jj_N yL_seriesValue 4 := by unfold jj_N; decide +kernel
theorem jw_1204 : Cond.methodLink RL 200 yX11_seriesValue ∈ jj_G := jj_t8 (List.mem_of_getElem? (i := 166) (by decide +kernel)) rfl
theorem jw_1205 : Cond.instanceMethod yX11_seriesValue ∈ jj_G := jj_t8 (List.mem_of_getElem? (i := 167) (by decide +kernel)) rfl
theorem jw_1206 : Cond.selects RX11 yX11_seriesValue yX11_seriesValue ∈ jj_G := jj_t8 (List.mem_of_getElem? (i := 168) (by decide +kernel)) rfl
theorem jn_X11_seriesValue : jj_N yX11_seriesValue 2 := by unfold jj_N; decide +kernel
theorem jw_1208 : Cond.methodLink RL 60 yX10_lot ∈ jj_G := jj_t5 (List.mem_of_getElem? (i := 189) (by decide +kernel)) rfl
theorem jw_1209 : Cond.instanceMethod yX10_lot ∈ jj_G := jj_t5 (List.mem_of_getElem? (i := 190) (by decide +kernel)) rfl
theorem jw_1210 : Cond.selects RX10 yX10_lot yX10_lot ∈ jj_G := jj_t5 (List.mem_of_getElem? (i := 191) (by decide +kernel)) rfl
theorem jn_X10_lot : jj_N yX10_lot 2 := by unfold jj_N; decide +kernel
theorem jw_1212 : Cond.codeWith yL_lot cL_lot 5 (some .int) [(0, 9, 12, 25), (0, 9, 16, 19)] ∈ jj_G := jj_t5 (List.mem_of_getElem? (i := 188) (by decide +kernel)) rfl
theorem jw_1213 : Cond.methodLink RL 201 yL_lot ∈ jj_G := jj_t5 (List.mem_of_getElem? (i := 186) (by decide +kernel)) rfl
theorem jw_1214 : Cond.static yL_lot ∈ jj_G := jj_t5 (List.mem_of_getElem? (i := 187) (by decide +kernel)) rfl
theorem jn_L_lot : jj_N yL_lot 4 := by unfold jj_N; decide +kernel
theorem jw_1216 : Cond.methodLink RL 203 yX11_lot ∈ jj_G := jj_t8 (List.mem_of_getElem? (i := 175) (by decide +kernel)) rfl
theorem jw_1217 : Cond.instanceMethod yX11_lot ∈ jj_G := jj_t8 (List.mem_of_getElem? (i := 176) (by decide +kernel)) rfl
theorem jw_1218 : Cond.selects RX11 yX11_lot yX11_lot ∈ jj_G := jj_t8 (List.mem_of_getElem? (i := 177) (by decide +kernel)) rfl
theorem jn_X11_lot : jj_N yX11_lot 2 := by unfold jj_N; decide +kernel
theorem jw_1220 : Cond.methodLink RL 63 yX10_request ∈ jj_G := jj_t5 (List.mem_of_getElem? (i := 197) (by decide +kernel)) rfl
theorem jw_1221 : Cond.instanceMethod yX10_request ∈ jj_G := jj_t5 (List.mem_of_getElem? (i := 198) (by decide +kernel)) rfl
theorem jw_1222 : Cond.selects RX10 yX10_request yX10_request ∈ jj_G := jj_t5 (List.mem_of_getElem? (i := 199) (by decide +kernel)) rfl
theorem jn_X10_request : jj_N yX10_request 2 := by unfold jj_N; decide +kernel
theorem jw_1224 : Cond.codeWith yL_request cL_request 5 (some .int) [(0, 9, 12, 25), (0, 9, 16, 19)] ∈ jj_G := jj_t5 (List.mem_of_getElem? (i := 196) (by decide +kernel)) rfl
theorem jw_1225 : Cond.methodLink RL 204 yL_request ∈ jj_G := jj_t5 (List.mem_of_getElem? (i := 194) (by decide +kernel)) rfl
theorem jw_1226 : Cond.static yL_request ∈ jj_G := jj_t5 (List.mem_of_getElem? (i := 195) (by decide +kernel)) rfl
theorem jn_L_request : jj_N yL_request 4 := by unfold jj_N; decide +kernel
theorem jw_1228 : Cond.methodLink RL 206 yX11_request ∈ jj_G := jj_t8 (List.mem_of_getElem? (i := 179) (by decide +kernel)) rfl
theorem jw_1229 : Cond.instanceMethod yX11_request ∈ jj_G := jj_t8 (List.mem_of_getElem? (i := 180) (by decide +kernel)) rfl
theorem jw_1230 : Cond.selects RX11 yX11_request yX11_request ∈ jj_G := jj_t8 (List.mem_of_getElem? (i := 181) (by decide +kernel)) rfl
theorem jn_X11_request : jj_N yX11_request 2 := by unfold jj_N; decide +kernel
theorem jw_1232 : Cond.methodLink RL 66 yX10_unitsOf ∈ jj_G := jj_t5 (List.mem_of_getElem? (i := 204) (by decide +kernel)) rfl
theorem jw_1233 : Cond.instanceMethod yX10_unitsOf ∈ jj_G := jj_t5 (List.mem_of_getElem? (i := 205) (by decide +kernel)) rfl
theorem jw_1234 : Cond.selects RX10 yX10_unitsOf yX10_unitsOf ∈ jj_G := jj_t5 (List.mem_of_getElem? (i := 206) (by decide +kernel)) rfl
theorem jn_X10_unitsOf : jj_N yX10_unitsOf 1 := by unfold jj_N; decide +kernel
theorem jw_1236 : Cond.codeWith yL_unitsOf cL_unitsOf 4 (some .int) [(0, 8, 11, 25)] ∈ jj_G := jj_t5 (List.mem_of_getElem? (i := 203) (by decide +kernel)) rfl
theorem jw_1237 : Cond.methodLink RL 207 yL_unitsOf ∈ jj_G := jj_t5 (List.mem_of_getElem? (i := 201) (by decide +kernel)) rfl
theorem jw_1238 : Cond.static yL_unitsOf ∈ jj_G := jj_t5 (List.mem_of_getElem? (i := 202) (by decide +kernel)) rfl
theorem jn_L_unitsOf : jj_N yL_unitsOf 3 := by unfold jj_N; decide +kernel
theorem jw_1240 : Cond.methodLink RL 209 yX11_unitsOf ∈ jj_G := jj_t8 (List.mem_of_getElem? (i := 183) (by decide +kernel)) rfl
theorem jw_1241 : Cond.instanceMethod yX11_unitsOf ∈ jj_G := jj_t8 (List.mem_of_getElem? (i := 184) (by decide +kernel)) rfl
theorem jw_1242 : Cond.selects RX11 yX11_unitsOf yX11_unitsOf ∈ jj_G := jj_t8 (List.mem_of_getElem? (i := 185) (by decide +kernel)) rfl
theorem jn_X11_unitsOf : jj_N yX11_unitsOf 1 := by unfold jj_N; decide +kernel
theorem jw_1244 : Cond.methodLink RL 69 yX10_holding ∈ jj_G := jj_t5 (List.mem_of_getElem? (i := 216) (by decide +kernel)) rfl
theorem jw_1245 : Cond.instanceMethod yX10_holding ∈ jj_G := jj_t5 (List.mem_of_getElem? (i := 217) (by decide +kernel)) rfl
theorem jw_1246 : Cond.selects RX10 yX10_holding yX10_holding ∈ jj_G := jj_t5 (List.mem_of_getElem? (i := 218) (by decide +kernel)) rfl
theorem jn_X10_holding : jj_N yX10_holding 2 := by unfold jj_N; decide +kernel
theorem jw_1248 : Cond.codeWith yL_holding cL_holding 5 (some .int) [(0, 9, 12, 25)] ∈ jj_G := jj_t5 (List.mem_of_getElem? (i := 215) (by decide +kernel)) rfl
theorem jw_1249 : Cond.methodLink RL 210 yL_holding ∈ jj_G := jj_t5 (List.mem_of_getElem? (i := 213) (by decide +kernel)) rfl
theorem jw_1250 : Cond.static yL_holding ∈ jj_G := jj_t5 (List.mem_of_getElem? (i := 214) (by decide +kernel)) rfl
theorem jn_L_holding : jj_N yL_holding 4 := by unfold jj_N; decide +kernel
theorem jw_1252 : Cond.methodLink RL 212 yX11_holding ∈ jj_G := jj_t8 (List.mem_of_getElem? (i := 187) (by decide +kernel)) rfl
theorem jw_1253 : Cond.instanceMethod yX11_holding ∈ jj_G := jj_t8 (List.mem_of_getElem? (i := 188) (by decide +kernel)) rfl
theorem jw_1254 : Cond.selects RX11 yX11_holding yX11_holding ∈ jj_G := jj_t8 (List.mem_of_getElem? (i := 189) (by decide +kernel)) rfl
theorem jn_X11_holding : jj_N yX11_holding 2 := by unfold jj_N; decide +kernel
theorem jw_1256 : Cond.methodLink RL 72 yX10_valueOf ∈ jj_G := jj_t5 (List.mem_of_getElem? (i := 224) (by decide +kernel)) rfl
theorem jw_1257 : Cond.instanceMethod yX10_valueOf ∈ jj_G := jj_t5 (List.mem_of_getElem? (i := 225) (by decide +kernel)) rfl
theorem jw_1258 : Cond.selects RX10 yX10_valueOf yX10_valueOf ∈ jj_G := jj_t5 (List.mem_of_getElem? (i := 226) (by decide +kernel)) rfl
theorem jn_X10_valueOf : jj_N yX10_valueOf 1 := by unfold jj_N; decide +kernel
theorem jw_1260 : Cond.codeWith yL_valueOf cL_valueOf 4 (some .int) [(0, 8, 11, 25)] ∈ jj_G := jj_t5 (List.mem_of_getElem? (i := 223) (by decide +kernel)) rfl
theorem jw_1261 : Cond.methodLink RL 213 yL_valueOf ∈ jj_G := jj_t5 (List.mem_of_getElem? (i := 221) (by decide +kernel)) rfl
theorem jw_1262 : Cond.static yL_valueOf ∈ jj_G := jj_t5 (List.mem_of_getElem? (i := 222) (by decide +kernel)) rfl
theorem jn_L_valueOf : jj_N yL_valueOf 3 := by unfold jj_N; decide +kernel
theorem jw_1264 : Cond.methodLink RL 215 yX11_valueOf ∈ jj_G := jj_t8 (List.mem_of_getElem? (i := 195) (by decide +kernel)) rfl
theorem jw_1265 : Cond.instanceMethod yX11_valueOf ∈ jj_G := jj_t8 (List.mem_of_getElem? (i := 196) (by decide +kernel)) rfl
theorem jw_1266 : Cond.selects RX11 yX11_valueOf yX11_valueOf ∈ jj_G := jj_t8 (List.mem_of_getElem? (i := 197) (by decide +kernel)) rfl
theorem jn_X11_valueOf : jj_N yX11_valueOf 1 := by unfold jj_N; decide +kernel
theorem jw_1268 : Cond.methodLink RL 75 yX10_richest ∈ jj_G := jj_t5 (List.mem_of_getElem? (i := 236) (by decide +kernel)) rfl
theorem jw_1269 : Cond.instanceMethod yX10_richest ∈ jj_G := jj_t5 (List.mem_of_getElem? (i := 237) (by decide +kernel)) rfl
theorem jw_1270 : Cond.selects RX10 yX10_richest yX10_richest ∈ jj_G := jj_t5 (List.mem_of_getElem? (i := 238) (by decide +kernel)) rfl
theorem jn_X10_richest : jj_N yX10_richest 1 := by unfold jj_N; decide +kernel
theorem jw_1272 : Cond.codeWith yL_richest cL_richest 4 (some .int) [(0, 9, 12, 25)] ∈ jj_G := jj_t5 (List.mem_of_getElem? (i := 235) (by decide +kernel)) rfl
theorem jw_1273 : Cond.methodLink RL 216 yL_richest ∈ jj_G := jj_t5 (List.mem_of_getElem? (i := 233) (by decide +kernel)) rfl
theorem jw_1274 : Cond.static yL_richest ∈ jj_G := jj_t5 (List.mem_of_getElem? (i := 234) (by decide +kernel)) rfl
theorem jn_L_richest : jj_N yL_richest 3 := by unfold jj_N; decide +kernel
theorem jw_1276 : Cond.methodLink RL 218 yX11_richest ∈ jj_G := jj_t8 (List.mem_of_getElem? (i := 203) (by decide +kernel)) rfl
theorem jw_1277 : Cond.instanceMethod yX11_richest ∈ jj_G := jj_t8 (List.mem_of_getElem? (i := 204) (by decide +kernel)) rfl
theorem jw_1278 : Cond.selects RX11 yX11_richest yX11_richest ∈ jj_G := jj_t8 (List.mem_of_getElem? (i := 205) (by decide +kernel)) rfl
theorem jn_X11_richest : jj_N yX11_richest 1 := by unfold jj_N; decide +kernel
theorem jw_1280 : Cond.methodLink RL 78 yX10_share ∈ jj_G := jj_t6 (List.mem_of_getElem? (i := 21) (by decide +kernel)) rfl
theorem jw_1281 : Cond.instanceMethod yX10_share ∈ jj_G := jj_t6 (List.mem_of_getElem? (i := 22) (by decide +kernel)) rfl
theorem jw_1282 : Cond.selects RX10 yX10_share yX10_share ∈ jj_G := jj_t6 (List.mem_of_getElem? (i := 23) (by decide +kernel)) rfl
theorem jn_X10_share : jj_N yX10_share 1 := by unfold jj_N; decide +kernel
theorem jw_1284 : Cond.classLink RL 82 "java/lang/ArithmeticException" ∈ jj_G := jj_t6 (List.mem_of_getElem? (i := 7) (by decide +kernel)) rfl
theorem jw_1285 : Cond.codeWith yL_share cL_share 4 (some .int) [(0, 8, 11, 25), (0, 8, 14, 82)] ∈ jj_G := jj_t6 (List.mem_of_getElem? (i := 6) (by decide +kernel)) rfl
theorem jw_1286 : Cond.methodLink RL 219 yL_share ∈ jj_G := jj_t6 (List.mem_of_getElem? (i := 4) (by decide +kernel)) rfl
theorem jw_1287 : Cond.static yL_share ∈ jj_G := jj_t6 (List.mem_of_getElem? (i := 5) (by decide +kernel)) rfl
theorem jn_L_share : jj_N yL_share 3 := by unfold jj_N; decide +kernel
theorem jw_1289 : Cond.methodLink RL 222 yX11_share ∈ jj_G := jj_t8 (List.mem_of_getElem? (i := 207) (by decide +kernel)) rfl
theorem jw_1290 : Cond.instanceMethod yX11_share ∈ jj_G := jj_t8 (List.mem_of_getElem? (i := 208) (by decide +kernel)) rfl
theorem jw_1291 : Cond.selects RX11 yX11_share yX11_share ∈ jj_G := jj_t8 (List.mem_of_getElem? (i := 209) (by decide +kernel)) rfl
theorem jn_X11_share : jj_N yX11_share 1 := by unfold jj_N; decide +kernel
theorem jw_1293 : Cond.methodLink RL 223 yX10_requestedValue ∈ jj_G := jj_t4 (List.mem_of_getElem? (i := 78) (by decide +kernel)) rfl
theorem jw_1294 : Cond.instanceMethod yX10_requestedValue ∈ jj_G := jj_t4 (List.mem_of_getElem? (i := 79) (by decide +kernel)) rfl
theorem jw_1295 : Cond.selects RX10 yX10_requestedValue yX10_requestedValue ∈ jj_G := jj_t4 (List.mem_of_getElem? (i := 80) (by decide +kernel)) rfl
theorem jn_X10_requestedValue : jj_N yX10_requestedValue 0 := by unfold jj_N; decide +kernel
theorem jw_1297 : Cond.methodLink RL 226 yX11_requestedValue ∈ jj_G := jj_t8 (List.mem_of_getElem? (i := 211) (by decide +kernel)) rfl
theorem jw_1298 : Cond.instanceMethod yX11_requestedValue ∈ jj_G := jj_t8 (List.mem_of_getElem? (i := 212) (by decide +kernel)) rfl
theorem jw_1299 : Cond.selects RX11 yX11_requestedValue yX11_requestedValue ∈ jj_G := jj_t8 (List.mem_of_getElem? (i := 213) (by decide +kernel)) rfl
theorem jn_X11_requestedValue : jj_N yX11_requestedValue 0 := by unfold jj_N; decide +kernel
theorem jw_1301 : Cond.methodLink RL 227 yX10_gateLimit ∈ jj_G := jj_t4 (List.mem_of_getElem? (i := 83) (by decide +kernel)) rfl
theorem jw_1302 : Cond.instanceMethod yX10_gateLimit ∈ jj_G := jj_t4 (List.mem_of_getElem? (i := 84) (by decide +kernel)) rfl
theorem jw_1303 : Cond.selects RX10 yX10_gateLimit yX10_gateLimit ∈ jj_G := jj_t4 (List.mem_of_getElem? (i := 85) (by decide +kernel)) rfl
theorem jn_X10_gateLimit : jj_N yX10_gateLimit 0 := by unfold jj_N; decide +kernel
theorem jw_1305 : Cond.methodLink RL 230 yX11_gateLimit ∈ jj_G := jj_t8 (List.mem_of_getElem? (i := 215) (by decide +kernel)) rfl
theorem jw_1306 : Cond.instanceMethod yX11_gateLimit ∈ jj_G := jj_t8 (List.mem_of_getElem? (i := 216) (by decide +kernel)) rfl
theorem jw_1307 : Cond.selects RX11 yX11_gateLimit yX11_gateLimit ∈ jj_G := jj_t8 (List.mem_of_getElem? (i := 217) (by decide +kernel)) rfl
theorem jn_X11_gateLimit : jj_N yX11_gateLimit 0 := by unfold jj_N; decide +kernel
theorem jw_1309 : Cond.methodLink RL 84 yX10_wouldRedeem ∈ jj_G := jj_t6 (List.mem_of_getElem? (i := 31) (by decide +kernel)) rfl
theorem jw_1310 : Cond.instanceMethod yX10_wouldRedeem ∈ jj_G := jj_t6 (List.mem_of_getElem? (i := 32) (by decide +kernel)) rfl
theorem jw_1311 : Cond.selects RX10 yX10_wouldRedeem yX10_wouldRedeem ∈ jj_G := jj_t6 (List.mem_of_getElem? (i := 33) (by decide +kernel)) rfl
theorem jn_X10_wouldRedeem : jj_N yX10_wouldRedeem 1 := by unfold jj_N; decide +kernel
theorem jw_1313 : Cond.codeWith yL_wouldRedeem cL_wouldRedeem 4 (some .int) [(0, 8, 11, 25)] ∈ jj_G := jj_t6 (List.mem_of_getElem? (i := 30) (by decide +kernel)) rfl
theorem jw_1314 : Cond.methodLink RL 231 yL_wouldRedeem ∈ jj_G := jj_t6 (List.mem_of_getElem? (i := 28) (by decide +kernel)) rfl
theorem jw_1315 : Cond.static yL_wouldRedeem ∈ jj_G := jj_t6 (List.mem_of_getElem? (i := 29) (by decide +kernel)) rfl
theorem jn_L_wouldRedeem : jj_N yL_wouldRedeem 3 := by unfold jj_N; decide +kernel
theorem jw_1317 : Cond.methodLink RL 233 yX11_wouldRedeem ∈ jj_G := jj_t8 (List.mem_of_getElem? (i := 219) (by decide +kernel)) rfl
theorem jw_1318 : Cond.instanceMethod yX11_wouldRedeem ∈ jj_G := jj_t8 (List.mem_of_getElem? (i := 220) (by decide +kernel)) rfl
theorem jw_1319 : Cond.selects RX11 yX11_wouldRedeem yX11_wouldRedeem ∈ jj_G := jj_t8 (List.mem_of_getElem? (i := 221) (by decide +kernel)) rfl
theorem jn_X11_wouldRedeem : jj_N yX11_wouldRedeem 1 := by unfold jj_N; decide +kernel
theorem jw_1321 : Cond.methodLink RL 87 yX10_dealsUntilDone ∈ jj_G := jj_t6 (List.mem_of_getElem? (i := 39) (by decide +kernel)) rfl
theorem jw_1322 : Cond.instanceMethod yX10_dealsUntilDone ∈ jj_G := jj_t6 (List.mem_of_getElem? (i := 40) (by decide +kernel)) rfl
theorem jw_1323 : Cond.selects RX10 yX10_dealsUntilDone yX10_dealsUntilDone ∈ jj_G := jj_t6 (List.mem_of_getElem? (i := 41) (by decide +kernel)) rfl
theorem jn_X10_dealsUntilDone : jj_N yX10_dealsUntilDone 1 := by unfold jj_N; decide +kernel
theorem jw_1325 : Cond.codeWith yL_dealsUntilDone cL_dealsUntilDone 4 (some .int) [(0, 9, 12, 25)] ∈ jj_G := jj_t6 (List.mem_of_getElem? (i := 38) (by decide +kernel)) rfl
theorem jw_1326 : Cond.methodLink RL 234 yL_dealsUntilDone ∈ jj_G := jj_t6 (List.mem_of_getElem? (i := 36) (by decide +kernel)) rfl
theorem jw_1327 : Cond.static yL_dealsUntilDone ∈ jj_G := jj_t6 (List.mem_of_getElem? (i := 37) (by decide +kernel)) rfl
theorem jn_L_dealsUntilDone : jj_N yL_dealsUntilDone 3 := by unfold jj_N; decide +kernel
theorem jw_1329 : Cond.methodLink RL 236 yX11_dealsUntilDone ∈ jj_G := jj_t8 (List.mem_of_getElem? (i := 223) (by decide +kernel)) rfl
theorem jw_1330 : Cond.instanceMethod yX11_dealsUntilDone ∈ jj_G := jj_t8 (List.mem_of_getElem? (i := 224) (by decide +kernel)) rfl
theorem jw_1331 : Cond.selects RX11 yX11_dealsUntilDone yX11_dealsUntilDone ∈ jj_G := jj_t8 (List.mem_of_getElem? (i := 225) (by decide +kernel)) rfl
theorem jn_X11_dealsUntilDone : jj_N yX11_dealsUntilDone 1 := by unfold jj_N; decide +kernel
theorem jw_1333 : Cond.methodLink RL 90 yX10_feesIf ∈ jj_G := jj_t6 (List.mem_of_getElem? (i := 56) (by decide +kernel)) rfl
theorem jw_1334 : Cond.instanceMethod yX10_feesIf ∈ jj_G := jj_t6 (List.mem_of_getElem? (i := 57) (by decide +kernel)) rfl
theorem jw_1335 : Cond.selects RX10 yX10_feesIf yX10_feesIf ∈ jj_G := jj_t6 (List.mem_of_getElem? (i := 58) (by decide +kernel)) rfl
theorem jn_X10_feesIf : jj_N yX10_feesIf 1 := by unfold jj_N; decide +kernel
theorem jw_1337 : Cond.codeWith yL_feesIf cL_feesIf 4 (some .int) [(0, 8, 11, 19)] ∈ jj_G := jj_t6 (List.mem_of_getElem? (i := 55) (by decide +kernel)) rfl
theorem jw_1338 : Cond.methodLink RL 237 yL_feesIf ∈ jj_G := jj_t6 (List.mem_of_getElem? (i := 53) (by decide +kernel)) rfl
theorem jw_1339 : Cond.static yL_feesIf ∈ jj_G := jj_t6 (List.mem_of_getElem? (i := 54) (by decide +kernel)) rfl
theorem jn_L_feesIf : jj_N yL_feesIf 3 := by unfold jj_N; decide +kernel
theorem jw_1341 : Cond.methodLink RL 239 yX11_feesIf ∈ jj_G := jj_t8 (List.mem_of_getElem? (i := 231) (by decide +kernel)) rfl
theorem jw_1342 : Cond.instanceMethod yX11_feesIf ∈ jj_G := jj_t8 (List.mem_of_getElem? (i := 232) (by decide +kernel)) rfl
theorem jw_1343 : Cond.selects RX11 yX11_feesIf yX11_feesIf ∈ jj_G := jj_t8 (List.mem_of_getElem? (i := 233) (by decide +kernel)) rfl
theorem jn_X11_feesIf : jj_N yX11_feesIf 1 := by unfold jj_N; decide +kernel
theorem jw_1345 : Cond.methodLink RL 93 yX10_breakEven ∈ jj_G := jj_t6 (List.mem_of_getElem? (i := 65) (by decide +kernel)) rfl
theorem jw_1346 : Cond.instanceMethod yX10_breakEven ∈ jj_G := jj_t6 (List.mem_of_getElem? (i := 66) (by decide +kernel)) rfl
theorem jw_1347 : Cond.selects RX10 yX10_breakEven yX10_breakEven ∈ jj_G := jj_t6 (List.mem_of_getElem? (i := 67) (by decide +kernel)) rfl
theorem jn_X10_breakEven : jj_N yX10_breakEven 1 := by unfold jj_N; decide +kernel
theorem jw_1349 : Cond.codeWith yL_breakEven cL_breakEven 4 (some .int) [(0, 9, 12, 25), (0, 9, 15, 96)] ∈ jj_G := jj_t6 (List.mem_of_getElem? (i := 63) (by decide +kernel)) rfl
theorem jw_1350 : Cond.methodLink RL 240 yL_breakEven ∈ jj_G := jj_t6 (List.mem_of_getElem? (i := 61) (by decide +kernel)) rfl
theorem jw_1351 : Cond.static yL_breakEven ∈ jj_G := jj_t6 (List.mem_of_getElem? (i := 62) (by decide +kernel)) rfl
theorem jn_L_breakEven : jj_N yL_breakEven 3 := by unfold jj_N; decide +kernel
theorem jw_1353 : Cond.methodLink RL 242 yX11_breakEven ∈ jj_G := jj_t8 (List.mem_of_getElem? (i := 239) (by decide +kernel)) rfl
theorem jw_1354 : Cond.instanceMethod yX11_breakEven ∈ jj_G := jj_t9 (List.mem_of_getElem? (i := 0) (by decide +kernel)) rfl
theorem jw_1355 : Cond.selects RX11 yX11_breakEven yX11_breakEven ∈ jj_G := jj_t9 (List.mem_of_getElem? (i := 1) (by decide +kernel)) rfl
theorem jn_X11_breakEven : jj_N yX11_breakEven 1 := by unfold jj_N; decide +kernel
theorem jw_1357 : Cond.constantLong RL 243 (4294967295) ∈ jj_G := jj_t9 (List.mem_of_getElem? (i := 59) (by decide +kernel)) rfl
theorem jw_1358 : Cond.methodLink RL 98 yX10_rateFor ∈ jj_G := jj_t6 (List.mem_of_getElem? (i := 93) (by decide +kernel)) rfl
theorem jw_1359 : Cond.instanceMethod yX10_rateFor ∈ jj_G := jj_t6 (List.mem_of_getElem? (i := 94) (by decide +kernel)) rfl
theorem jw_1360 : Cond.selects RX10 yX10_rateFor yX10_rateFor ∈ jj_G := jj_t6 (List.mem_of_getElem? (i := 95) (by decide +kernel)) rfl
theorem jn_X10_rateFor : jj_N yX10_rateFor 2 := by unfold jj_N; decide +kernel
theorem jw_1362 : Cond.classLink RL 96 "java/util/NoSuchElementException" ∈ jj_G := jj_t6 (List.mem_of_getElem? (i := 64) (by decide +kernel)) rfl
theorem jw_1363 : Cond.codeWith yL_rateFor cL_rateFor 6 (some .int) [(0, 11, 14, 25), (0, 11, 18, 96)] ∈ jj_G := jj_t6 (List.mem_of_getElem? (i := 92) (by decide +kernel)) rfl
theorem jw_1364 : Cond.methodLink RL 245 yL_rateFor ∈ jj_G := jj_t6 (List.mem_of_getElem? (i := 90) (by decide +kernel)) rfl
theorem jw_1365 : Cond.static yL_rateFor ∈ jj_G := jj_t6 (List.mem_of_getElem? (i := 91) (by decide +kernel)) rfl
theorem jn_L_rateFor : jj_N yL_rateFor 4 := by unfold jj_N; decide +kernel
theorem jw_1367 : Cond.methodLink RL 248 yX11_rateFor ∈ jj_G := jj_t9 (List.mem_of_getElem? (i := 3) (by decide +kernel)) rfl
theorem jw_1368 : Cond.instanceMethod yX11_rateFor ∈ jj_G := jj_t9 (List.mem_of_getElem? (i := 4) (by decide +kernel)) rfl
theorem jw_1369 : Cond.selects RX11 yX11_rateFor yX11_rateFor ∈ jj_G := jj_t9 (List.mem_of_getElem? (i := 5) (by decide +kernel)) rfl
theorem jn_X11_rateFor : jj_N yX11_rateFor 2 := by unfold jj_N; decide +kernel
theorem jw_1371 : Cond.methodLink RL 102 yX10_daysUntil ∈ jj_G := jj_t6 (List.mem_of_getElem? (i := 116) (by decide +kernel)) rfl
theorem jw_1372 : Cond.instanceMethod yX10_daysUntil ∈ jj_G := jj_t6 (List.mem_of_getElem? (i := 117) (by decide +kernel)) rfl
theorem jw_1373 : Cond.selects RX10 yX10_daysUntil yX10_daysUntil ∈ jj_G := jj_t6 (List.mem_of_getElem? (i := 118) (by decide +kernel)) rfl
theorem jn_X10_daysUntil : jj_N yX10_daysUntil 1 := by unfold jj_N; decide +kernel
theorem jw_1375 : Cond.codeWith yL_daysUntil cL_daysUntil 5 (some .int) [(0, 9, 12, 19)] ∈ jj_G := jj_t6 (List.mem_of_getElem? (i := 115) (by decide +kernel)) rfl
theorem jw_1376 : Cond.methodLink RL 249 yL_daysUntil ∈ jj_G := jj_t6 (List.mem_of_getElem? (i := 113) (by decide +kernel)) rfl
theorem jw_1377 : Cond.static yL_daysUntil ∈ jj_G := jj_t6 (List.mem_of_getElem? (i := 114) (by decide +kernel)) rfl
theorem jn_L_daysUntil : jj_N yL_daysUntil 3 := by unfold jj_N; decide +kernel
theorem jw_1379 : Cond.methodLink RL 252 yX11_daysUntil ∈ jj_G := jj_t9 (List.mem_of_getElem? (i := 15) (by decide +kernel)) rfl
theorem jw_1380 : Cond.instanceMethod yX11_daysUntil ∈ jj_G := jj_t9 (List.mem_of_getElem? (i := 16) (by decide +kernel)) rfl
theorem jw_1381 : Cond.selects RX11 yX11_daysUntil yX11_daysUntil ∈ jj_G := jj_t9 (List.mem_of_getElem? (i := 17) (by decide +kernel)) rfl
theorem jn_X11_daysUntil : jj_N yX11_daysUntil 1 := by unfold jj_N; decide +kernel
theorem jw_1383 : Cond.methodLink RL 253 yX10_wouldCrystallize ∈ jj_G := jj_t4 (List.mem_of_getElem? (i := 88) (by decide +kernel)) rfl
theorem jw_1384 : Cond.instanceMethod yX10_wouldCrystallize ∈ jj_G := jj_t4 (List.mem_of_getElem? (i := 89) (by decide +kernel)) rfl
theorem jw_1385 : Cond.selects RX10 yX10_wouldCrystallize yX10_wouldCrystallize ∈ jj_G := jj_t4 (List.mem_of_getElem? (i := 90) (by decide +kernel)) rfl
theorem jn_X10_wouldCrystallize : jj_N yX10_wouldCrystallize 0 := by unfold jj_N; decide +kernel
theorem jw_1387 : Cond.methodLink RL 256 yX11_wouldCrystallize ∈ jj_G := jj_t9 (List.mem_of_getElem? (i := 19) (by decide +kernel)) rfl
theorem jw_1388 : Cond.instanceMethod yX11_wouldCrystallize ∈ jj_G := jj_t9 (List.mem_of_getElem? (i := 20) (by decide +kernel)) rfl
theorem jw_1389 : Cond.selects RX11 yX11_wouldCrystallize yX11_wouldCrystallize ∈ jj_G := jj_t9 (List.mem_of_getElem? (i := 21) (by decide +kernel)) rfl
theorem jn_X11_wouldCrystallize : jj_N yX11_wouldCrystallize 0 := by unfold jj_N; decide +kernel
theorem jw_1391 : Cond.methodLink RL 257 yX10_wouldMerge ∈ jj_G := jj_t4 (List.mem_of_getElem? (i := 92) (by decide +kernel)) rfl
theorem jw_1392 : Cond.instanceMethod yX10_wouldMerge ∈ jj_G := jj_t4 (List.mem_of_getElem? (i := 93) (by decide +kernel)) rfl
theorem jw_1393 : Cond.selects RX10 yX10_wouldMerge yX10_wouldMerge ∈ jj_G := jj_t4 (List.mem_of_getElem? (i := 94) (by decide +kernel)) rfl
theorem jn_X10_wouldMerge : jj_N yX10_wouldMerge 0 := by unfold jj_N; decide +kernel
theorem jw_1395 : Cond.methodLink RL 260 yX11_wouldMerge ∈ jj_G := jj_t9 (List.mem_of_getElem? (i := 23) (by decide +kernel)) rfl
theorem jw_1396 : Cond.instanceMethod yX11_wouldMerge ∈ jj_G := jj_t9 (List.mem_of_getElem? (i := 24) (by decide +kernel)) rfl
theorem jw_1397 : Cond.selects RX11 yX11_wouldMerge yX11_wouldMerge ∈ jj_G := jj_t9 (List.mem_of_getElem? (i := 25) (by decide +kernel)) rfl
theorem jn_X11_wouldMerge : jj_N yX11_wouldMerge 0 := by unfold jj_N; decide +kernel
theorem jw_1399 : Cond.methodLink RL 106 yX10_bestGate ∈ jj_G := jj_t6 (List.mem_of_getElem? (i := 124) (by decide +kernel)) rfl
theorem jw_1400 : Cond.instanceMethod yX10_bestGate ∈ jj_G := jj_t6 (List.mem_of_getElem? (i := 125) (by decide +kernel)) rfl
theorem jw_1401 : Cond.selects RX10 yX10_bestGate yX10_bestGate ∈ jj_G := jj_t6 (List.mem_of_getElem? (i := 126) (by decide +kernel)) rfl
theorem jn_X10_bestGate : jj_N yX10_bestGate 1 := by unfold jj_N; decide +kernel
theorem jw_1403 : Cond.codeWith yL_bestGate cL_bestGate 4 (some .int) [(0, 9, 12, 25)] ∈ jj_G := jj_t6 (List.mem_of_getElem? (i := 123) (by decide +kernel)) rfl
theorem jw_1404 : Cond.methodLink RL 261 yL_bestGate ∈ jj_G := jj_t6 (List.mem_of_getElem? (i := 121) (by decide +kernel)) rfl
theorem jw_1405 : Cond.static yL_bestGate ∈ jj_G := jj_t6 (List.mem_of_getElem? (i := 122) (by decide +kernel)) rfl
theorem jn_L_bestGate : jj_N yL_bestGate 3 := by unfold jj_N; decide +kernel
theorem jw_1407 : Cond.methodLink RL 263 yX11_bestGate ∈ jj_G := jj_t9 (List.mem_of_getElem? (i := 27) (by decide +kernel)) rfl
theorem jw_1408 : Cond.instanceMethod yX11_bestGate ∈ jj_G := jj_t9 (List.mem_of_getElem? (i := 28) (by decide +kernel)) rfl
theorem jw_1409 : Cond.selects RX11 yX11_bestGate yX11_bestGate ∈ jj_G := jj_t9 (List.mem_of_getElem? (i := 29) (by decide +kernel)) rfl
theorem jn_X11_bestGate : jj_N yX11_bestGate 1 := by unfold jj_N; decide +kernel
theorem jw_1411 : Cond.methodLink RL 264 yX10_writeReport ∈ jj_G := jj_t4 (List.mem_of_getElem? (i := 96) (by decide +kernel)) rfl
theorem jw_1412 : Cond.instanceMethod yX10_writeReport ∈ jj_G := jj_t4 (List.mem_of_getElem? (i := 97) (by decide +kernel)) rfl
theorem jw_1413 : Cond.selects RX10 yX10_writeReport yX10_writeReport ∈ jj_G := jj_t4 (List.mem_of_getElem? (i := 98) (by decide +kernel)) rfl
theorem jn_X10_writeReport : jj_N yX10_writeReport 0 := by unfold jj_N; decide +kernel
theorem jw_1415 : Cond.methodLink RL 267 yX11_writeReport ∈ jj_G := jj_t9 (List.mem_of_getElem? (i := 31) (by decide +kernel)) rfl
theorem jw_1416 : Cond.instanceMethod yX11_writeReport ∈ jj_G := jj_t9 (List.mem_of_getElem? (i := 32) (by decide +kernel)) rfl
theorem jw_1417 : Cond.selects RX11 yX11_writeReport yX11_writeReport ∈ jj_G := jj_t9 (List.mem_of_getElem? (i := 33) (by decide +kernel)) rfl
theorem jn_X11_writeReport : jj_N yX11_writeReport 0 := by unfold jj_N; decide +kernel
theorem jw_1419 : Cond.methodLink RL 109 yX10_reportByte ∈ jj_G := jj_t6 (List.mem_of_getElem? (i := 131) (by decide +kernel)) rfl
theorem jw_1420 : Cond.instanceMethod yX10_reportByte ∈ jj_G := jj_t6 (List.mem_of_getElem? (i := 132) (by decide +kernel)) rfl
theorem jw_1421 : Cond.selects RX10 yX10_reportByte yX10_reportByte ∈ jj_G := jj_t6 (List.mem_of_getElem? (i := 133) (by decide +kernel)) rfl
theorem jn_X10_reportByte : jj_N yX10_reportByte 1 := by unfold jj_N; decide +kernel
theorem jw_1423 : Cond.codeWith yL_reportByte cL_reportByte 4 (some .int) [(0, 9, 12, 25)] ∈ jj_G := jj_t6 (List.mem_of_getElem? (i := 130) (by decide +kernel)) rfl
theorem jw_1424 : Cond.methodLink RL 268 yL_reportByte ∈ jj_G := jj_t6 (List.mem_of_getElem? (i := 128) (by decide +kernel)) rfl
theorem jw_1425 : Cond.static yL_reportByte ∈ jj_G := jj_t6 (List.mem_of_getElem? (i := 129) (by decide +kernel)) rfl
theorem jn_L_reportByte : jj_N yL_reportByte 3 := by unfold jj_N; decide +kernel
theorem jw_1427 : Cond.methodLink RL 270 yX11_reportByte ∈ jj_G := jj_t9 (List.mem_of_getElem? (i := 55) (by decide +kernel)) rfl
theorem jw_1428 : Cond.instanceMethod yX11_reportByte ∈ jj_G := jj_t9 (List.mem_of_getElem? (i := 56) (by decide +kernel)) rfl
theorem jw_1429 : Cond.selects RX11 yX11_reportByte yX11_reportByte ∈ jj_G := jj_t9 (List.mem_of_getElem? (i := 57) (by decide +kernel)) rfl
theorem jn_X11_reportByte : jj_N yX11_reportByte 1 := by unfold jj_N; decide +kernel
theorem jw_1431 : Cond.methodLink RL 112 yX10_undo ∈ jj_G := jj_t6 (List.mem_of_getElem? (i := 139) (by decide +kernel)) rfl
theorem jw_1432 : Cond.instanceMethod yX10_undo ∈ jj_G := jj_t6 (List.mem_of_getElem? (i := 140) (by decide +kernel)) rfl
theorem jw_1433 : Cond.selects RX10 yX10_undo yX10_undo ∈ jj_G := jj_t6 (List.mem_of_getElem? (i := 141) (by decide +kernel)) rfl
theorem jn_X10_undo : jj_N yX10_undo 0 := by unfold jj_N; decide +kernel
theorem jw_1435 : Cond.codeWith yL_undo cL_undo 3 (some .int) [(0, 8, 11, 13)] ∈ jj_G := jj_t6 (List.mem_of_getElem? (i := 138) (by decide +kernel)) rfl
theorem jw_1436 : Cond.methodLink RL 271 yL_undo ∈ jj_G := jj_t6 (List.mem_of_getElem? (i := 136) (by decide +kernel)) rfl
theorem jw_1437 : Cond.static yL_undo ∈ jj_G := jj_t6 (List.mem_of_getElem? (i := 137) (by decide +kernel)) rfl
theorem jn_L_undo : jj_N yL_undo 2 := by unfold jj_N; decide +kernel
theorem jw_1439 : Cond.methodLink RL 274 yX11_undo ∈ jj_G := jj_t6 (List.mem_of_getElem? (i := 235) (by decide +kernel)) rfl
theorem jw_1440 : Cond.instanceMethod yX11_undo ∈ jj_G := jj_t6 (List.mem_of_getElem? (i := 236) (by decide +kernel)) rfl
theorem jw_1441 : Cond.selects RX11 yX11_undo yX11_undo ∈ jj_G := jj_t6 (List.mem_of_getElem? (i := 237) (by decide +kernel)) rfl
theorem jn_X11_undo : jj_N yX11_undo 0 := by unfold jj_N; decide +kernel
theorem jw_1443 : Cond.methodLink RL 275 yX10_undoDepth ∈ jj_G := jj_t4 (List.mem_of_getElem? (i := 145) (by decide +kernel)) rfl
theorem jw_1444 : Cond.instanceMethod yX10_undoDepth ∈ jj_G := jj_t4 (List.mem_of_getElem? (i := 146) (by decide +kernel)) rfl
theorem jw_1445 : Cond.selects RX10 yX10_undoDepth yX10_undoDepth ∈ jj_G := jj_t4 (List.mem_of_getElem? (i := 147) (by decide +kernel)) rfl
theorem jn_X10_undoDepth : jj_N yX10_undoDepth 0 := by unfold jj_N; decide +kernel
theorem jw_1447 : Cond.methodLink RL 278 yX11_undoDepth ∈ jj_G := jj_t7 (List.mem_of_getElem? (i := 3) (by decide +kernel)) rfl
theorem jw_1448 : Cond.instanceMethod yX11_undoDepth ∈ jj_G := jj_t7 (List.mem_of_getElem? (i := 4) (by decide +kernel)) rfl
theorem jw_1449 : Cond.selects RX11 yX11_undoDepth yX11_undoDepth ∈ jj_G := jj_t7 (List.mem_of_getElem? (i := 5) (by decide +kernel)) rfl
theorem jn_X11_undoDepth : jj_N yX11_undoDepth 0 := by unfold jj_N; decide +kernel
theorem jw_1452 : Cond.laysFinal RJ0 "java/lang/String" "value" "[B" ∈ jj_G := jj_t5 (List.mem_of_getElem? (i := 38) (by decide +kernel)) rfl
theorem jw_1453 : Cond.laysFinal RJ0 "java/lang/String" "coder" "B" ∈ jj_G := jj_t5 (List.mem_of_getElem? (i := 40) (by decide +kernel)) rfl
theorem ju_0 : ∀ w ∈ u_ws RJ0 TJ0 2, w ∈ jj_G := by
  intro w hw
  obtain ⟨k, hk, rfl⟩ := List.mem_map.mp hw
  have hk := List.mem_range.mp hk
  match k, hk with
  | 0, _ => exact jw_1452
  | 1, _ => exact jw_1453
  | n + 2, hk => exact absurd hk (by omega)
theorem jk_0 : jj_K 0 RJ0 TJ0 2 tyJ0 := ⟨rfl, ju_0, tyJ0_ok, nmJ0⟩
theorem jd_0 : ∀ j, j < 2 → defaultValue (tyJ0 j) = vp_V [.null, .int 0] j := by
  intro j hj
  match j, hj with
  | 0, _ => rfl
  | 1, _ => rfl
  | n + 2, hj => exact absurd hj (by omega)
theorem jw_1455 : Cond.lays RJx00060 "java/lang/Throwable" "backtrace" "Ljava/lang/Object;" ∈ jj_G := jj_t5 (List.mem_of_getElem? (i := 26) (by decide +kernel)) rfl
theorem jw_1456 : Cond.lays RJx00060 "java/lang/Throwable" "detailMessage" "Ljava/lang/String;" ∈ jj_G := jj_t5 (List.mem_of_getElem? (i := 27) (by decide +kernel)) rfl
theorem jw_1457 : Cond.lays RJx00060 "java/lang/Throwable" "cause" "Ljava/lang/Throwable;" ∈ jj_G := jj_t5 (List.mem_of_getElem? (i := 28) (by decide +kernel)) rfl
theorem jw_1458 : Cond.lays RJx00060 "java/lang/Throwable" "stackTrace" "[Ljava/lang/StackTraceElement;" ∈ jj_G := jj_t5 (List.mem_of_getElem? (i := 29) (by decide +kernel)) rfl
theorem jw_1459 : Cond.lays RJx00060 "java/lang/Throwable" "depth" "I" ∈ jj_G := jj_t5 (List.mem_of_getElem? (i := 30) (by decide +kernel)) rfl
theorem jw_1460 : Cond.lays RJx00060 "java/lang/Throwable" "suppressedExceptions" "Ljava/util/List;" ∈ jj_G := jj_t5 (List.mem_of_getElem? (i := 31) (by decide +kernel)) rfl
theorem ju_1 : ∀ w ∈ u_ws RJx00060 TJx00060 6, w ∈ jj_G := by
  intro w hw
  obtain ⟨k, hk, rfl⟩ := List.mem_map.mp hw
  have hk := List.mem_range.mp hk
  match k, hk with
  | 0, _ => exact jw_1455
  | 1, _ => exact jw_1456
  | 2, _ => exact jw_1457
  | 3, _ => exact jw_1458
  | 4, _ => exact jw_1459
  | 5, _ => exact jw_1460
  | n + 6, hk => exact absurd hk (by omega)
theorem jk_1 : jj_K 1 RJx00060 TJx00060 6 tyJx00060 := ⟨rfl, ju_1, tyJx00060_ok, nmJx00060⟩
theorem jd_1 : ∀ j, j < 6 → defaultValue (tyJx00060 j) = vp_V [.null, .null, .null, .null, .int 0, .null] j := by
  intro j hj
  match j, hj with
  | 0, _ => rfl
  | 1, _ => rfl
  | 2, _ => rfl
  | 3, _ => rfl
  | 4, _ => rfl
  | 5, _ => rfl
  | n + 6, hj => exact absurd hj (by omega)
