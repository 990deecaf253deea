theorem jt_RX10_75 : jj_T RX10 75 "java/lang/IllegalArgumentException" ["java/lang/RuntimeException", "java/lang/Exception"] := ⟨by decide +kernel, by decide +kernel, by decide +kernel, by decide +kernel, by decide +kernel, by decide +kernel⟩
theorem jw_0e6c957e85 : Cond.classLink RX10 71 "java/lang/IllegalArgumentException" ∈ jj_G := jj_t4 (List.mem_of_getElem? (i := 239) (by decide +kernel)) rfl
theorem jw_f82a97e333 : Cond.fieldLink RX10 26 "SeriesFund" "book" "LSeriesFund$Book;" ∈ jj_G := jj_t2 (List.mem_of_getElem? (i := 100) (by decide +kernel)) rfl
theorem jw_0fe8c7b52b : Cond.laysFinal RX10 "SeriesFund" "tokens" "LSeriesFund$Tokens;" ∈ jj_G := jj_t2 (List.mem_of_getElem? (i := 107) (by decide +kernel)) rfl
theorem jw_e1b1f4e8eb : Cond.lays RX10 "SeriesFund" "parseCode" "I" ∈ jj_G := jj_t2 (List.mem_of_getElem? (i := 109) (by decide +kernel)) rfl
theorem jw_a4458a381c : Cond.lays RX10 "SeriesFund" "parsePosition" "I" ∈ jj_G := jj_t2 (List.mem_of_getElem? (i := 111) (by decide +kernel)) rfl
theorem jw_76cae1b071 : Cond.laysFinal RX10 "SeriesFund" "book" "LSeriesFund$Book;" ∈ jj_G := jj_t2 (List.mem_of_getElem? (i := 113) (by decide +kernel)) rfl
theorem jw_d3fc475334 : Cond.laysFinal RX10 "SeriesFund" "thought" "LSeriesFund$Book;" ∈ jj_G := jj_t2 (List.mem_of_getElem? (i := 115) (by decide +kernel)) rfl
theorem jw_60e9c81aa8 : Cond.laysFinal RX10 "SeriesFund" "desk" "LSeriesFund$Desk;" ∈ jj_G := jj_t2 (List.mem_of_getElem? (i := 117) (by decide +kernel)) rfl
theorem jw_fd53499099 : Cond.laysFinal RX10 "SeriesFund" "past" "[LSeriesFund$Book;" ∈ jj_G := jj_t2 (List.mem_of_getElem? (i := 119) (by decide +kernel)) rfl
theorem jw_ced1ccc2d6 : Cond.lays RX10 "SeriesFund" "newest" "I" ∈ jj_G := jj_t2 (List.mem_of_getElem? (i := 121) (by decide +kernel)) rfl
theorem jw_e07e03f6a4 : Cond.lays RX10 "SeriesFund" "remembered" "I" ∈ jj_G := jj_t2 (List.mem_of_getElem? (i := 123) (by decide +kernel)) rfl
theorem jw_036e6e131b : Cond.laysFinal RX10 "SeriesFund" "report" "LSeriesFund$Report;" ∈ jj_G := jj_t2 (List.mem_of_getElem? (i := 125) (by decide +kernel)) rfl
theorem ju_11 : ∀ w ∈ u_ws RX10 TX10 10, w ∈ jj_G := by
  intro w hw
  obtain ⟨k, hk, rfl⟩ := List.mem_map.mp hw
  have hk := List.mem_range.mp hk
  match k, hk with
  | 0, _ => exact jw_0fe8c7b52b
  | 1, _ => exact jw_e1b1f4e8eb
  | 2, _ => exact jw_a4458a381c
  | 3, _ => exact jw_76cae1b071
  | 4, _ => exact jw_d3fc475334
  | 5, _ => exact jw_60e9c81aa8
  | 6, _ => exact jw_fd53499099
  | 7, _ => exact jw_ced1ccc2d6
  | 8, _ => exact jw_e07e03f6a4
  | 9, _ => exact jw_036e6e131b
  | n + 10, hk => exact absurd hk (by omega)
theorem jk_11 : jj_K 11 RX10 TX10 10 tyX10 := ⟨rfl, ju_11, tyX10_ok, nmX10⟩
theorem jd_11 : ∀ j, j < 10 → defaultValue (tyX10 j) = vp_V [.null, .int 0, .int 0, .null, .null, .null, .null, .int 0, .int 0, .null] j := by
  intro j hj
  match j, hj with
  | 0, _ => rfl
  | 1, _ => rfl
  | 2, _ => rfl
  | 3, _ => rfl
  | 4, _ => rfl
  | 5, _ => rfl
  | 6, _ => rfl
  | 7, _ => rfl
  | 8, _ => rfl
  | 9, _ => rfl
  | n + 10, hj => exact absurd hj (by omega)
theorem jw_952185ebde : Cond.fieldLink RX10 244 "SeriesFund$Book" "accounts" "[J" ∈ jj_G := jj_t2 (List.mem_of_getElem? (i := 8) (by decide +kernel)) rfl
theorem jw_398972e0a7 : Cond.lays RX0 "SeriesFund$Book" "investors" "I" ∈ jj_G := jj_t2 (List.mem_of_getElem? (i := 21) (by decide +kernel)) rfl
theorem jw_2edca9eec0 : Cond.lays RX0 "SeriesFund$Book" "method" "I" ∈ jj_G := jj_t2 (List.mem_of_getElem? (i := 23) (by decide +kernel)) rfl
theorem jw_fee07213cd : Cond.lays RX0 "SeriesFund$Book" "managementRate" "I" ∈ jj_G := jj_t2 (List.mem_of_getElem? (i := 25) (by decide +kernel)) rfl
theorem jw_2ffbc3ce84 : Cond.lays RX0 "SeriesFund$Book" "performanceFee" "I" ∈ jj_G := jj_t2 (List.mem_of_getElem? (i := 27) (by decide +kernel)) rfl
theorem jw_ae5e84ece9 : Cond.lays RX0 "SeriesFund$Book" "gate" "I" ∈ jj_G := jj_t2 (List.mem_of_getElem? (i := 29) (by decide +kernel)) rfl
theorem jw_e585208ad1 : Cond.lays RX0 "SeriesFund$Book" "day" "I" ∈ jj_G := jj_t2 (List.mem_of_getElem? (i := 31) (by decide +kernel)) rfl
theorem jw_6f401570d8 : Cond.lays RX0 "SeriesFund$Book" "opened" "I" ∈ jj_G := jj_t2 (List.mem_of_getElem? (i := 33) (by decide +kernel)) rfl
theorem jw_c6a1337d18 : Cond.lays RX0 "SeriesFund$Book" "seriesCount" "I" ∈ jj_G := jj_t2 (List.mem_of_getElem? (i := 35) (by decide +kernel)) rfl
theorem jw_ffbd75cdae : Cond.lays RX0 "SeriesFund$Book" "lotCount" "I" ∈ jj_G := jj_t2 (List.mem_of_getElem? (i := 37) (by decide +kernel)) rfl
theorem jw_ca8490f30c : Cond.lays RX0 "SeriesFund$Book" "requestCount" "I" ∈ jj_G := jj_t2 (List.mem_of_getElem? (i := 39) (by decide +kernel)) rfl
theorem jw_795688774e : Cond.laysFinal RX0 "SeriesFund$Book" "accounts" "[J" ∈ jj_G := jj_t2 (List.mem_of_getElem? (i := 41) (by decide +kernel)) rfl
theorem jw_2ad4e8b43c : Cond.laysFinal RX0 "SeriesFund$Book" "series" "[LSeriesFund$Series;" ∈ jj_G := jj_t2 (List.mem_of_getElem? (i := 43) (by decide +kernel)) rfl
theorem jw_74cbf1b716 : Cond.laysFinal RX0 "SeriesFund$Book" "lots" "[LSeriesFund$Lot;" ∈ jj_G := jj_t2 (List.mem_of_getElem? (i := 45) (by decide +kernel)) rfl
theorem jw_a7758601b9 : Cond.laysFinal RX0 "SeriesFund$Book" "requests" "[LSeriesFund$Request;" ∈ jj_G := jj_t2 (List.mem_of_getElem? (i := 47) (by decide +kernel)) rfl
theorem ju_2 : ∀ w ∈ u_ws RX0 TX0 14, w ∈ jj_G := by
  intro w hw
  obtain ⟨k, hk, rfl⟩ := List.mem_map.mp hw
  have hk := List.mem_range.mp hk
  match k, hk with
  | 0, _ => exact jw_398972e0a7
  | 1, _ => exact jw_2edca9eec0
  | 2, _ => exact jw_fee07213cd
  | 3, _ => exact jw_2ffbc3ce84
  | 4, _ => exact jw_ae5e84ece9
  | 5, _ => exact jw_e585208ad1
  | 6, _ => exact jw_6f401570d8
  | 7, _ => exact jw_c6a1337d18
  | 8, _ => exact jw_ffbd75cdae
  | 9, _ => exact jw_ca8490f30c
  | 10, _ => exact jw_795688774e
  | 11, _ => exact jw_2ad4e8b43c
  | 12, _ => exact jw_74cbf1b716
  | 13, _ => exact jw_a7758601b9
  | n + 14, hk => exact absurd hk (by omega)
theorem jk_2 : jj_K 2 RX0 TX0 14 tyX0 := ⟨rfl, ju_2, tyX0_ok, nmX0⟩
theorem jd_2 : ∀ j, j < 14 → defaultValue (tyX0 j) = vp_V [.int 0, .int 0, .int 0, .int 0, .int 0, .int 0, .int 0, .int 0, .int 0, .int 0, .null, .null, .null, .null] j := by
  intro j hj
  match j, hj with
  | 0, _ => rfl
  | 1, _ => rfl
  | 2, _ => rfl
  | 3, _ => rfl
  | 4, _ => rfl
  | 5, _ => rfl
  | 6, _ => rfl
  | 7, _ => rfl
  | 8, _ => rfl
  | 9, _ => rfl
  | 10, _ => rfl
  | 11, _ => rfl
  | 12, _ => rfl
  | 13, _ => rfl
  | n + 14, hj => exact absurd hj (by omega)
theorem jw_4836d4133c : Cond.fieldLink RX10 10 "SeriesFund" "tokens" "LSeriesFund$Tokens;" ∈ jj_G := jj_t2 (List.mem_of_getElem? (i := 97) (by decide +kernel)) rfl
theorem jw_73b0a985ca : Cond.fieldLink RX10 57 "SeriesFund$Tokens" "held" "I" ∈ jj_G := jj_t1 (List.mem_of_getElem? (i := 43) (by decide +kernel)) rfl
theorem jw_a6ce1ca1ee : Cond.laysFinal RX9 "SeriesFund$Tokens" "text" "[C" ∈ jj_G := jj_t1 (List.mem_of_getElem? (i := 55) (by decide +kernel)) rfl
theorem jw_d42dc6f731 : Cond.lays RX9 "SeriesFund$Tokens" "held" "I" ∈ jj_G := jj_t1 (List.mem_of_getElem? (i := 57) (by decide +kernel)) rfl
theorem jw_fdbb05a095 : Cond.lays RX9 "SeriesFund$Tokens" "length" "I" ∈ jj_G := jj_t1 (List.mem_of_getElem? (i := 59) (by decide +kernel)) rfl
theorem jw_dca1de5eeb : Cond.lays RX9 "SeriesFund$Tokens" "end" "I" ∈ jj_G := jj_t1 (List.mem_of_getElem? (i := 61) (by decide +kernel)) rfl
theorem jw_6f106e6de7 : Cond.lays RX9 "SeriesFund$Tokens" "start" "I" ∈ jj_G := jj_t1 (List.mem_of_getElem? (i := 63) (by decide +kernel)) rfl
theorem jw_f5a0fc5dc3 : Cond.lays RX9 "SeriesFund$Tokens" "kind" "I" ∈ jj_G := jj_t1 (List.mem_of_getElem? (i := 65) (by decide +kernel)) rfl
theorem jw_31913415f0 : Cond.lays RX9 "SeriesFund$Tokens" "value" "I" ∈ jj_G := jj_t1 (List.mem_of_getElem? (i := 67) (by decide +kernel)) rfl
theorem ju_10 : ∀ w ∈ u_ws RX9 TX9 7, w ∈ jj_G := by
  intro w hw
  obtain ⟨k, hk, rfl⟩ := List.mem_map.mp hw
  have hk := List.mem_range.mp hk
  match k, hk with
  | 0, _ => exact jw_a6ce1ca1ee
  | 1, _ => exact jw_d42dc6f731
  | 2, _ => exact jw_fdbb05a095
  | 3, _ => exact jw_dca1de5eeb
  | 4, _ => exact jw_6f106e6de7
  | 5, _ => exact jw_f5a0fc5dc3
  | 6, _ => exact jw_31913415f0
  | n + 7, hk => exact absurd hk (by omega)
theorem jk_10 : jj_K 10 RX9 TX9 7 tyX9 := ⟨rfl, ju_10, tyX9_ok, nmX9⟩
theorem jd_10 : ∀ j, j < 7 → defaultValue (tyX9 j) = vp_V [.null, .int 0, .int 0, .int 0, .int 0, .int 0, .int 0] j := by
  intro j hj
  match j, hj with
  | 0, _ => rfl
  | 1, _ => rfl
  | 2, _ => rfl
  | 3, _ => rfl
  | 4, _ => rfl
  | 5, _ => rfl
  | 6, _ => rfl
  | n + 7, hj => exact absurd hj (by omega)
theorem jw_2c6a0579ce : Cond.methodLink RX10 67 yX9_putFour ∈ jj_G := jj_t4 (List.mem_of_getElem? (i := 227) (by decide +kernel)) rfl
theorem jw_7315f2d416 : Cond.code yX9_putFour cX9_putFour 3 none ∈ jj_G := jj_t4 (List.mem_of_getElem? (i := 230) (by decide +kernel)) rfl
theorem jw_a9e7b602dc : Cond.initialized RX9 ∈ jj_G := jj_t1 (List.mem_of_getElem? (i := 2) (by decide +kernel)) rfl
theorem jw_133bcadae3 : Cond.fieldLink RX9 15 "SeriesFund$Tokens" "held" "I" ∈ jj_G := jj_t1 (List.mem_of_getElem? (i := 42) (by decide +kernel)) rfl
theorem jw_0664e1e086 : Cond.fieldLink RX9 9 "SeriesFund$Tokens" "text" "[C" ∈ jj_G := jj_t1 (List.mem_of_getElem? (i := 41) (by decide +kernel)) rfl
theorem jw_465aad3f08 : Cond.instanceMethod yX9_putFour ∈ jj_G := jj_t4 (List.mem_of_getElem? (i := 228) (by decide +kernel)) rfl
theorem jw_9200269c04 : Cond.selects RX9 yX9_putFour yX9_putFour ∈ jj_G := jj_t4 (List.mem_of_getElem? (i := 229) (by decide +kernel)) rfl
theorem jn_X9_putFour : jj_N yX9_putFour 1 := by unfold jj_N; decide +kernel
theorem jt_RX10_64 : jj_T RX10 64 "java/lang/IllegalStateException" ["java/lang/RuntimeException", "java/lang/Exception"] := ⟨by decide +kernel, by decide +kernel, by decide +kernel, by decide +kernel, by decide +kernel, by decide +kernel⟩
theorem jw_2e653062aa : Cond.classLink RX10 60 "java/lang/IllegalStateException" ∈ jj_G := jj_t4 (List.mem_of_getElem? (i := 157) (by decide +kernel)) rfl
theorem jw_8393dc7999 : Cond.methodLink RX10 122 yX10_checkRequest ∈ jj_G := jj_t5 (List.mem_of_getElem? (i := 81) (by decide +kernel)) rfl
theorem jw_31f2a3897e : Cond.code yX10_checkRequest cX10_checkRequest 2 none ∈ jj_G := jj_t5 (List.mem_of_getElem? (i := 84) (by decide +kernel)) rfl
theorem jw_6f6d707074 : Cond.initialized RX10 ∈ jj_G := jj_t1 (List.mem_of_getElem? (i := 1) (by decide +kernel)) rfl
theorem jw_90eccdbdf8 : Cond.methodLink RX10 109 yX10_refuse ∈ jj_G := jj_t5 (List.mem_of_getElem? (i := 47) (by decide +kernel)) rfl
theorem jw_57df353171 : Cond.code yX10_refuse cX10_refuse 1 none ∈ jj_G := jj_t5 (List.mem_of_getElem? (i := 49) (by decide +kernel)) rfl
theorem jt_RX10_200 : jj_T RX10 200 "java/lang/IndexOutOfBoundsException" ["java/lang/RuntimeException", "java/lang/Exception"] := ⟨by decide +kernel, by decide +kernel, by decide +kernel, by decide +kernel, by decide +kernel, by decide +kernel⟩
theorem jw_290c9469a0 : Cond.classLink RX10 196 "java/lang/IndexOutOfBoundsException" ∈ jj_G := jj_t5 (List.mem_of_getElem? (i := 50) (by decide +kernel)) rfl
theorem jw_751c22758b : Cond.static yX10_refuse ∈ jj_G := jj_t5 (List.mem_of_getElem? (i := 48) (by decide +kernel)) rfl
theorem jn_X10_refuse : jj_N yX10_refuse 1 := by unfold jj_N; decide +kernel
theorem jw_e1b9780688 : Cond.fieldLink RX10 94 "SeriesFund$Book" "requestCount" "I" ∈ jj_G := jj_t2 (List.mem_of_getElem? (i := 4) (by decide +kernel)) rfl
theorem jw_19ebf3d629 : Cond.instanceMethod yX10_checkRequest ∈ jj_G := jj_t5 (List.mem_of_getElem? (i := 83) (by decide +kernel)) rfl
theorem jw_0700398a86 : Cond.selects RX10 yX10_checkRequest yX10_checkRequest ∈ jj_G := jj_pv (q := (yX10_checkRequest, 10)) (by decide +kernel)
theorem jn_X10_checkRequest : jj_N yX10_checkRequest 1 := by unfold jj_N; decide +kernel
theorem jw_68e650e198 : Cond.fieldLink RX10 125 "SeriesFund$Book" "requests" "[LSeriesFund$Request;" ∈ jj_G := jj_t2 (List.mem_of_getElem? (i := 20) (by decide +kernel)) rfl
theorem jw_1fa8e983d6 : Cond.fieldLink RX10 310 "SeriesFund$Request" "redemption" "Z" ∈ jj_G := jj_t1 (List.mem_of_getElem? (i := 185) (by decide +kernel)) rfl
theorem jw_a35f1804ea : Cond.lays RX6 "SeriesFund$Request" "investor" "I" ∈ jj_G := jj_t1 (List.mem_of_getElem? (i := 194) (by decide +kernel)) rfl
theorem jw_1438b02069 : Cond.lays RX6 "SeriesFund$Request" "day" "I" ∈ jj_G := jj_t1 (List.mem_of_getElem? (i := 196) (by decide +kernel)) rfl
theorem jw_5115765ca1 : Cond.lays RX6 "SeriesFund$Request" "redemption" "Z" ∈ jj_G := jj_t1 (List.mem_of_getElem? (i := 198) (by decide +kernel)) rfl
theorem jw_0e2a536fa6 : Cond.lays RX6 "SeriesFund$Request" "quantity" "J" ∈ jj_G := jj_t1 (List.mem_of_getElem? (i := 200) (by decide +kernel)) rfl
theorem jw_9b2996506f : Cond.lays RX6 "SeriesFund$Request" "redeemed" "J" ∈ jj_G := jj_t1 (List.mem_of_getElem? (i := 202) (by decide +kernel)) rfl
theorem ju_7 : ∀ w ∈ u_ws RX6 TX6 5, w ∈ jj_G := by
  intro w hw
  obtain ⟨k, hk, rfl⟩ := List.mem_map.mp hw
  have hk := List.mem_range.mp hk
  match k, hk with
  | 0, _ => exact jw_a35f1804ea
  | 1, _ => exact jw_1438b02069
  | 2, _ => exact jw_5115765ca1
  | 3, _ => exact jw_0e2a536fa6
  | 4, _ => exact jw_9b2996506f
  | n + 5, hk => exact absurd hk (by omega)
theorem jk_7 : jj_K 7 RX6 TX6 5 tyX6 := ⟨rfl, ju_7, tyX6_ok, nmX6⟩
theorem jd_7 : ∀ j, j < 5 → defaultValue (tyX6 j) = vp_V [.int 0, .int 0, .int 0, .long 0, .long 0] j := by
  intro j hj
  match j, hj with
  | 0, _ => rfl
  | 1, _ => rfl
  | 2, _ => rfl
  | 3, _ => rfl
  | 4, _ => rfl
  | n + 5, hj => exact absurd hj (by omega)
theorem jw_34b8702fe2 : Cond.fieldLink RX10 36 "SeriesFund" "desk" "LSeriesFund$Desk;" ∈ jj_G := jj_t2 (List.mem_of_getElem? (i := 102) (by decide +kernel)) rfl
theorem jw_0c87748527 : Cond.methodLink RX10 334 yX1_baseOfRedemptions ∈ jj_G := jj_t4 (List.mem_of_getElem? (i := 82) (by decide +kernel)) rfl
theorem jw_77ee4174d9 : Cond.code yX1_baseOfRedemptions cX1_baseOfRedemptions 6 (some .long) ∈ jj_G := jj_t3 (List.mem_of_getElem? (i := 41) (by decide +kernel)) rfl
theorem jw_944cf9c3ab : Cond.initialized RX1 ∈ jj_G := jj_t1 (List.mem_of_getElem? (i := 7) (by decide +kernel)) rfl
theorem jw_106092f028 : Cond.fieldLink RX1 56 "SeriesFund$Book" "requestCount" "I" ∈ jj_G := jj_t2 (List.mem_of_getElem? (i := 3) (by decide +kernel)) rfl
theorem jw_cb3eb05d91 : Cond.fieldLink RX1 60 "SeriesFund$Book" "requests" "[LSeriesFund$Request;" ∈ jj_G := jj_t2 (List.mem_of_getElem? (i := 19) (by decide +kernel)) rfl
theorem jw_500886c681 : Cond.fieldLink RX1 64 "SeriesFund$Request" "redemption" "Z" ∈ jj_G := jj_t1 (List.mem_of_getElem? (i := 183) (by decide +kernel)) rfl
theorem jw_e4af616004 : Cond.methodLink RX1 87 yX1_resetTrial ∈ jj_G := jj_t3 (List.mem_of_getElem? (i := 42) (by decide +kernel)) rfl
theorem jw_94abfb5ed9 : Cond.code yX1_resetTrial cX1_resetTrial 4 none ∈ jj_G := jj_t3 (List.mem_of_getElem? (i := 45) (by decide +kernel)) rfl
theorem jw_1a34255153 : Cond.fieldLink RX1 97 "SeriesFund$Book" "seriesCount" "I" ∈ jj_G := jj_t1 (List.mem_of_getElem? (i := 236) (by decide +kernel)) rfl
theorem jw_808194b586 : Cond.fieldLink RX1 11 "SeriesFund$Desk" "trial" "[LSeriesFund$Series;" ∈ jj_G := jj_t2 (List.mem_of_getElem? (i := 58) (by decide +kernel)) rfl
theorem jw_c3c024b280 : Cond.laysFinal RX1 "SeriesFund$Desk" "trial" "[LSeriesFund$Series;" ∈ jj_G := jj_t2 (List.mem_of_getElem? (i := 64) (by decide +kernel)) rfl
theorem jw_22606a68f2 : Cond.lays RX1 "SeriesFund$Desk" "base" "J" ∈ jj_G := jj_t2 (List.mem_of_getElem? (i := 66) (by decide +kernel)) rfl
theorem jw_c985cc6783 : Cond.lays RX1 "SeriesFund$Desk" "part" "J" ∈ jj_G := jj_t2 (List.mem_of_getElem? (i := 68) (by decide +kernel)) rfl
theorem jw_24d6fb59e9 : Cond.lays RX1 "SeriesFund$Desk" "usedCredit" "J" ∈ jj_G := jj_t2 (List.mem_of_getElem? (i := 70) (by decide +kernel)) rfl
theorem jw_a14c8698b2 : Cond.lays RX1 "SeriesFund$Desk" "back" "J" ∈ jj_G := jj_t2 (List.mem_of_getElem? (i := 72) (by decide +kernel)) rfl
theorem jw_74610ea7c6 : Cond.lays RX1 "SeriesFund$Desk" "due" "J" ∈ jj_G := jj_t2 (List.mem_of_getElem? (i := 74) (by decide +kernel)) rfl
theorem ju_3 : ∀ w ∈ u_ws RX1 TX1 6, w ∈ jj_G := by
  intro w hw
  obtain ⟨k, hk, rfl⟩ := List.mem_map.mp hw
  have hk := List.mem_range.mp hk
  match k, hk with
  | 0, _ => exact jw_c3c024b280
  | 1, _ => exact jw_22606a68f2
  | 2, _ => exact jw_c985cc6783
  | 3, _ => exact jw_24d6fb59e9
  | 4, _ => exact jw_a14c8698b2
  | 5, _ => exact jw_74610ea7c6
  | n + 6, hk => exact absurd hk (by omega)
theorem jk_3 : jj_K 3 RX1 TX1 6 tyX1 := ⟨rfl, ju_3, tyX1_ok, nmX1⟩
theorem jd_3 : ∀ j, j < 6 → defaultValue (tyX1 j) = vp_V [.null, .long 0, .long 0, .long 0, .long 0, .long 0] j := by
  intro j hj
  match j, hj with
  | 0, _ => rfl
  | 1, _ => rfl
  | 2, _ => rfl
  | 3, _ => rfl
  | 4, _ => rfl
  | 5, _ => rfl
  | n + 6, hj => exact absurd hj (by omega)
theorem jw_56984fd307 : Cond.fieldLink RX1 100 "SeriesFund$Book" "series" "[LSeriesFund$Series;" ∈ jj_G := jj_t2 (List.mem_of_getElem? (i := 12) (by decide +kernel)) rfl
theorem jw_ce2703e07f : Cond.methodLink RX1 103 yX8_copyFrom ∈ jj_G := jj_t3 (List.mem_of_getElem? (i := 46) (by decide +kernel)) rfl
theorem jw_067ae4989e : Cond.code yX8_copyFrom cX8_copyFrom 2 none ∈ jj_G := jj_t3 (List.mem_of_getElem? (i := 49) (by decide +kernel)) rfl
theorem jw_364e75910d : Cond.initialized RX8 ∈ jj_G := jj_t1 (List.mem_of_getElem? (i := 4) (by decide +kernel)) rfl
theorem jw_91bc8df070 : Cond.fieldLink RX8 9 "SeriesFund$Series" "number" "I" ∈ jj_G := jj_t1 (List.mem_of_getElem? (i := 89) (by decide +kernel)) rfl
theorem jw_8e694f969a : Cond.lays RX8 "SeriesFund$Series" "number" "I" ∈ jj_G := jj_t1 (List.mem_of_getElem? (i := 113) (by decide +kernel)) rfl
theorem jw_7d19958dc6 : Cond.lays RX8 "SeriesFund$Series" "startDay" "I" ∈ jj_G := jj_t1 (List.mem_of_getElem? (i := 115) (by decide +kernel)) rfl
theorem jw_028c291fc0 : Cond.lays RX8 "SeriesFund$Series" "assets" "J" ∈ jj_G := jj_t1 (List.mem_of_getElem? (i := 117) (by decide +kernel)) rfl
theorem jw_abadc0d5e7 : Cond.lays RX8 "SeriesFund$Series" "units" "J" ∈ jj_G := jj_t1 (List.mem_of_getElem? (i := 119) (by decide +kernel)) rfl
theorem jw_7b1ce3db2f : Cond.lays RX8 "SeriesFund$Series" "mark" "J" ∈ jj_G := jj_t1 (List.mem_of_getElem? (i := 121) (by decide +kernel)) rfl
theorem ju_9 : ∀ w ∈ u_ws RX8 TX8 5, w ∈ jj_G := by
  intro w hw
  obtain ⟨k, hk, rfl⟩ := List.mem_map.mp hw
  have hk := List.mem_range.mp hk
  match k, hk with
  | 0, _ => exact jw_8e694f969a
  | 1, _ => exact jw_7d19958dc6
  | 2, _ => exact jw_028c291fc0
  | 3, _ => exact jw_abadc0d5e7
  | 4, _ => exact jw_7b1ce3db2f
  | n + 5, hk => exact absurd hk (by omega)
theorem jk_9 : jj_K 9 RX8 TX8 5 tyX8 := ⟨rfl, ju_9, tyX8_ok, nmX8⟩
theorem jd_9 : ∀ j, j < 5 → defaultValue (tyX8 j) = vp_V [.int 0, .int 0, .long 0, .long 0, .long 0] j := by
  intro j hj
  match j, hj with
  | 0, _ => rfl
  | 1, _ => rfl
  | 2, _ => rfl
  | 3, _ => rfl
  | 4, _ => rfl
  | n + 5, hj => exact absurd hj (by omega)
theorem jw_9aacc2e946 : Cond.fieldLink RX8 15 "SeriesFund$Series" "startDay" "I" ∈ jj_G := jj_t1 (List.mem_of_getElem? (i := 95) (by decide +kernel)) rfl
theorem jw_589ef22e6e : Cond.fieldLink RX8 18 "SeriesFund$Series" "assets" "J" ∈ jj_G := jj_t1 (List.mem_of_getElem? (i := 97) (by decide +kernel)) rfl
theorem jw_dade208d77 : Cond.fieldLink RX8 22 "SeriesFund$Series" "units" "J" ∈ jj_G := jj_t1 (List.mem_of_getElem? (i := 102) (by decide +kernel)) rfl
theorem jw_e3193c06db : Cond.fieldLink RX8 27 "SeriesFund$Series" "mark" "J" ∈ jj_G := jj_t1 (List.mem_of_getElem? (i := 107) (by decide +kernel)) rfl
theorem jw_90d71545dc : Cond.instanceMethod yX8_copyFrom ∈ jj_G := jj_t3 (List.mem_of_getElem? (i := 47) (by decide +kernel)) rfl
theorem jw_31822f9d17 : Cond.selects RX8 yX8_copyFrom yX8_copyFrom ∈ jj_G := jj_t3 (List.mem_of_getElem? (i := 48) (by decide +kernel)) rfl
theorem jn_X8_copyFrom : jj_N yX8_copyFrom 1 := by unfold jj_N; decide +kernel
theorem jw_9f44c87e1b : Cond.methodLink RX1 107 yX8_assetsAfter ∈ jj_G := jj_t3 (List.mem_of_getElem? (i := 50) (by decide +kernel)) rfl
theorem jw_37a3f39914 : Cond.code yX8_assetsAfter cX8_assetsAfter 2 (some .long) ∈ jj_G := jj_t3 (List.mem_of_getElem? (i := 53) (by decide +kernel)) rfl
theorem jw_60b8791c95 : Cond.constantLong RX8 42 (10000) ∈ jj_G := jj_t3 (List.mem_of_getElem? (i := 54) (by decide +kernel)) rfl
theorem jw_f7b9340b8f : Cond.instanceMethod yX8_assetsAfter ∈ jj_G := jj_t3 (List.mem_of_getElem? (i := 51) (by decide +kernel)) rfl
theorem jw_ed03d6c861 : Cond.selects RX8 yX8_assetsAfter yX8_assetsAfter ∈ jj_G := jj_t3 (List.mem_of_getElem? (i := 52) (by decide +kernel)) rfl
theorem jn_X8_assetsAfter : jj_N yX8_assetsAfter 1 := by unfold jj_N; decide +kernel
theorem jw_a25c79ea7a : Cond.fieldLink RX1 110 "SeriesFund$Series" "assets" "J" ∈ jj_G := jj_t1 (List.mem_of_getElem? (i := 99) (by decide +kernel)) rfl
theorem jw_bacc1607b6 : Cond.instanceMethod yX1_resetTrial ∈ jj_G := jj_t3 (List.mem_of_getElem? (i := 44) (by decide +kernel)) rfl
theorem jw_d2d28ff2fc : Cond.selects RX1 yX1_resetTrial yX1_resetTrial ∈ jj_G := jj_pv (q := (yX1_resetTrial, 6)) (by decide +kernel)
theorem jn_X1_resetTrial : jj_N yX1_resetTrial 2 := by unfold jj_N; decide +kernel
theorem jw_ca00009e69 : Cond.fieldLink RX1 73 "SeriesFund$Request" "investor" "I" ∈ jj_G := jj_t1 (List.mem_of_getElem? (i := 176) (by decide +kernel)) rfl
theorem jw_1a2f98b2b0 : Cond.fieldLink RX1 70 "SeriesFund$Request" "quantity" "J" ∈ jj_G := jj_t1 (List.mem_of_getElem? (i := 187) (by decide +kernel)) rfl
theorem jw_484ec097f9 : Cond.methodLink RX1 91 yX1_tryRedemption ∈ jj_G := jj_t3 (List.mem_of_getElem? (i := 55) (by decide +kernel)) rfl
theorem jw_a452736dc6 : Cond.code yX1_tryRedemption cX1_tryRedemption 15 (some .long) ∈ jj_G := jj_t3 (List.mem_of_getElem? (i := 58) (by decide +kernel)) rfl
theorem jw_eaf43346a8 : Cond.fieldLink RX1 113 "SeriesFund$Book" "lotCount" "I" ∈ jj_G := jj_t1 (List.mem_of_getElem? (i := 239) (by decide +kernel)) rfl
theorem jw_41d1bd2a61 : Cond.fieldLink RX1 116 "SeriesFund$Book" "lots" "[LSeriesFund$Lot;" ∈ jj_G := jj_t2 (List.mem_of_getElem? (i := 15) (by decide +kernel)) rfl
theorem jw_85587ec127 : Cond.fieldLink RX1 120 "SeriesFund$Lot" "series" "I" ∈ jj_G := jj_t1 (List.mem_of_getElem? (i := 136) (by decide +kernel)) rfl
theorem jw_3d82cb77ec : Cond.lays RX4 "SeriesFund$Lot" "investor" "I" ∈ jj_G := jj_t1 (List.mem_of_getElem? (i := 157) (by decide +kernel)) rfl
theorem jw_1af01e40dc : Cond.lays RX4 "SeriesFund$Lot" "series" "I" ∈ jj_G := jj_t1 (List.mem_of_getElem? (i := 159) (by decide +kernel)) rfl
theorem jw_f0869939f7 : Cond.lays RX4 "SeriesFund$Lot" "day" "I" ∈ jj_G := jj_t1 (List.mem_of_getElem? (i := 161) (by decide +kernel)) rfl
theorem jw_8a8b88e90a : Cond.lays RX4 "SeriesFund$Lot" "units" "J" ∈ jj_G := jj_t1 (List.mem_of_getElem? (i := 163) (by decide +kernel)) rfl
theorem jw_0013b9fbd9 : Cond.lays RX4 "SeriesFund$Lot" "entryPrice" "J" ∈ jj_G := jj_t1 (List.mem_of_getElem? (i := 165) (by decide +kernel)) rfl
theorem jw_562ca58535 : Cond.lays RX4 "SeriesFund$Lot" "credit" "J" ∈ jj_G := jj_t1 (List.mem_of_getElem? (i := 167) (by decide +kernel)) rfl
theorem ju_5 : ∀ w ∈ u_ws RX4 TX4 6, w ∈ jj_G := by
  intro w hw
  obtain ⟨k, hk, rfl⟩ := List.mem_map.mp hw
  have hk := List.mem_range.mp hk
  match k, hk with
  | 0, _ => exact jw_3d82cb77ec
  | 1, _ => exact jw_1af01e40dc
  | 2, _ => exact jw_f0869939f7
  | 3, _ => exact jw_8a8b88e90a
  | 4, _ => exact jw_0013b9fbd9
  | 5, _ => exact jw_562ca58535
  | n + 6, hk => exact absurd hk (by omega)
theorem jk_5 : jj_K 5 RX4 TX4 6 tyX4 := ⟨rfl, ju_5, tyX4_ok, nmX4⟩
theorem jd_5 : ∀ j, j < 6 → defaultValue (tyX4 j) = vp_V [.int 0, .int 0, .int 0, .long 0, .long 0, .long 0] j := by
  intro j hj
  match j, hj with
  | 0, _ => rfl
  | 1, _ => rfl
  | 2, _ => rfl
  | 3, _ => rfl
  | 4, _ => rfl
  | 5, _ => rfl
  | n + 6, hj => exact absurd hj (by omega)
theorem jw_bb838ff949 : Cond.methodLink RX1 124 yX0_placeOfSeries ∈ jj_G := jj_t3 (List.mem_of_getElem? (i := 59) (by decide +kernel)) rfl
theorem jw_3fe68be2d3 : Cond.code yX0_placeOfSeries cX0_placeOfSeries 3 (some .int) ∈ jj_G := jj_t3 (List.mem_of_getElem? (i := 62) (by decide +kernel)) rfl
theorem jw_7d25d4fd32 : Cond.initialized RX0 ∈ jj_G := jj_t1 (List.mem_of_getElem? (i := 3) (by decide +kernel)) rfl
theorem jw_4839b30b4b : Cond.fieldLink RX0 33 "SeriesFund$Book" "seriesCount" "I" ∈ jj_G := jj_t1 (List.mem_of_getElem? (i := 233) (by decide +kernel)) rfl
theorem jw_b81d81495e : Cond.fieldLink RX0 48 "SeriesFund$Book" "series" "[LSeriesFund$Series;" ∈ jj_G := jj_t2 (List.mem_of_getElem? (i := 9) (by decide +kernel)) rfl
theorem jw_80b89a5c28 : Cond.fieldLink RX0 86 "SeriesFund$Series" "number" "I" ∈ jj_G := jj_t1 (List.mem_of_getElem? (i := 91) (by decide +kernel)) rfl
theorem jw_0061c834c4 : Cond.instanceMethod yX0_placeOfSeries ∈ jj_G := jj_t3 (List.mem_of_getElem? (i := 60) (by decide +kernel)) rfl
theorem jw_a3c4f03cad : Cond.selects RX0 yX0_placeOfSeries yX0_placeOfSeries ∈ jj_G := jj_t3 (List.mem_of_getElem? (i := 61) (by decide +kernel)) rfl
theorem jn_X0_placeOfSeries : jj_N yX0_placeOfSeries 1 := by unfold jj_N; decide +kernel
theorem jw_a8c98ef318 : Cond.fieldLink RX1 128 "SeriesFund$Lot" "investor" "I" ∈ jj_G := jj_t1 (List.mem_of_getElem? (i := 132) (by decide +kernel)) rfl
theorem jw_fcb072e0d9 : Cond.fieldLink RX1 129 "SeriesFund$Lot" "units" "J" ∈ jj_G := jj_t1 (List.mem_of_getElem? (i := 144) (by decide +kernel)) rfl
theorem jw_fa02caeb63 : Cond.methodLink RX1 132 yJ9_min_f86c9 ∈ jj_G := jj_t3 (List.mem_of_getElem? (i := 63) (by decide +kernel)) rfl
theorem jw_e0e7ffaaeb : Cond.code yJ9_min_f86c9 cJ9_min_f86c9 4 (some .long) ∈ jj_G := jj_t3 (List.mem_of_getElem? (i := 65) (by decide +kernel)) rfl
theorem jw_a731c8553d : Cond.initialized RJ9 ∈ jj_G := jj_t1 (List.mem_of_getElem? (i := 20) (by decide +kernel)) rfl
theorem jw_a0cddbe894 : Cond.static yJ9_min_f86c9 ∈ jj_G := jj_t3 (List.mem_of_getElem? (i := 64) (by decide +kernel)) rfl
theorem jn_J9_min_f86c9 : jj_N yJ9_min_f86c9 2 := by unfold jj_N; decide +kernel
theorem jw_1832e55719 : Cond.methodLink RX1 138 yX1_quote ∈ jj_G := jj_t3 (List.mem_of_getElem? (i := 66) (by decide +kernel)) rfl
theorem jw_9a9d59d9b6 : Cond.code yX1_quote cX1_quote 9 none ∈ jj_G := jj_t3 (List.mem_of_getElem? (i := 69) (by decide +kernel)) rfl
theorem jw_8322fbab96 : Cond.fieldLink RX1 159 "SeriesFund$Book" "performanceFee" "I" ∈ jj_G := jj_t1 (List.mem_of_getElem? (i := 222) (by decide +kernel)) rfl
theorem jw_8866efbbb4 : Cond.methodLink RX1 162 yX8_accruedFee ∈ jj_G := jj_t3 (List.mem_of_getElem? (i := 70) (by decide +kernel)) rfl
theorem jw_449e8f4cf4 : Cond.code yX8_accruedFee cX8_accruedFee 6 (some .long) ∈ jj_G := jj_t3 (List.mem_of_getElem? (i := 73) (by decide +kernel)) rfl
theorem jw_fb244e1aed : Cond.constantLong RX8 30 (100000) ∈ jj_G := jj_t3 (List.mem_of_getElem? (i := 74) (by decide +kernel)) rfl
theorem jw_60a3b5db88 : Cond.constantLong RX8 40 (100) ∈ jj_G := jj_t3 (List.mem_of_getElem? (i := 75) (by decide +kernel)) rfl
theorem jw_16e73d269e : Cond.instanceMethod yX8_accruedFee ∈ jj_G := jj_t3 (List.mem_of_getElem? (i := 71) (by decide +kernel)) rfl
theorem jw_e0ac78627f : Cond.selects RX8 yX8_accruedFee yX8_accruedFee ∈ jj_G := jj_t3 (List.mem_of_getElem? (i := 72) (by decide +kernel)) rfl
theorem jn_X8_accruedFee : jj_N yX8_accruedFee 1 := by unfold jj_N; decide +kernel
theorem jw_df3b225d28 : Cond.fieldLink RX1 142 "SeriesFund$Series" "units" "J" ∈ jj_G := jj_t1 (List.mem_of_getElem? (i := 103) (by decide +kernel)) rfl
theorem jw_d747bb1560 : Cond.fieldLink RX1 17 "SeriesFund$Desk" "base" "J" ∈ jj_G := jj_t2 (List.mem_of_getElem? (i := 59) (by decide +kernel)) rfl
theorem jw_771ad03ca8 : Cond.fieldLink RX1 21 "SeriesFund$Desk" "part" "J" ∈ jj_G := jj_t2 (List.mem_of_getElem? (i := 60) (by decide +kernel)) rfl
theorem jw_71edc34996 : Cond.fieldLink RX1 24 "SeriesFund$Desk" "usedCredit" "J" ∈ jj_G := jj_t2 (List.mem_of_getElem? (i := 61) (by decide +kernel)) rfl
theorem jw_21f29d6c44 : Cond.fieldLink RX1 27 "SeriesFund$Desk" "back" "J" ∈ jj_G := jj_t2 (List.mem_of_getElem? (i := 62) (by decide +kernel)) rfl
theorem jw_e41f55c9ce : Cond.fieldLink RX1 30 "SeriesFund$Desk" "due" "J" ∈ jj_G := jj_t2 (List.mem_of_getElem? (i := 63) (by decide +kernel)) rfl
theorem jw_5ff29d8ec5 : Cond.fieldLink RX1 152 "SeriesFund$Lot" "credit" "J" ∈ jj_G := jj_t1 (List.mem_of_getElem? (i := 154) (by decide +kernel)) rfl
theorem jw_23f70347f5 : Cond.fieldLink RX1 165 "SeriesFund$Book" "method" "I" ∈ jj_G := jj_t1 (List.mem_of_getElem? (i := 212) (by decide +kernel)) rfl
theorem jw_3ffc3c6a36 : Cond.fieldLink RX1 168 "SeriesFund$Lot" "entryPrice" "J" ∈ jj_G := jj_t1 (List.mem_of_getElem? (i := 149) (by decide +kernel)) rfl
theorem jw_7a88110815 : Cond.methodLink RX1 171 yX8_grossPrice ∈ jj_G := jj_t3 (List.mem_of_getElem? (i := 76) (by decide +kernel)) rfl
theorem jw_11bb953c63 : Cond.code yX8_grossPrice cX8_grossPrice 1 (some .long) ∈ jj_G := jj_t3 (List.mem_of_getElem? (i := 79) (by decide +kernel)) rfl
theorem jw_6861b3b77c : Cond.constantLong RX8 25 (1000000) ∈ jj_G := jj_t1 (List.mem_of_getElem? (i := 88) (by decide +kernel)) rfl
theorem jw_8d67ffd46e : Cond.instanceMethod yX8_grossPrice ∈ jj_G := jj_t3 (List.mem_of_getElem? (i := 77) (by decide +kernel)) rfl
theorem jw_4ae9f31643 : Cond.selects RX8 yX8_grossPrice yX8_grossPrice ∈ jj_G := jj_t3 (List.mem_of_getElem? (i := 78) (by decide +kernel)) rfl
theorem jn_X8_grossPrice : jj_N yX8_grossPrice 0 := by unfold jj_N; decide +kernel
theorem jw_0a98b03de8 : Cond.fieldLink RX1 174 "SeriesFund$Series" "mark" "J" ∈ jj_G := jj_t1 (List.mem_of_getElem? (i := 110) (by decide +kernel)) rfl
theorem jw_2f594c34e3 : Cond.methodLink RX1 177 yX2_dueOn ∈ jj_G := jj_t3 (List.mem_of_getElem? (i := 80) (by decide +kernel)) rfl
theorem jw_eebd9e2034 : Cond.code yX2_dueOn cX2_dueOn 7 (some .long) ∈ jj_G := jj_t3 (List.mem_of_getElem? (i := 82) (by decide +kernel)) rfl
theorem jw_79af3f4029 : Cond.initialized RX2 ∈ jj_G := jj_t1 (List.mem_of_getElem? (i := 21) (by decide +kernel)) rfl
theorem jw_0871e3df77 : Cond.constantLong RX2 9 (100) ∈ jj_G := jj_t3 (List.mem_of_getElem? (i := 83) (by decide +kernel)) rfl
theorem jw_acb9b226b5 : Cond.constantLong RX2 11 (100000) ∈ jj_G := jj_t3 (List.mem_of_getElem? (i := 84) (by decide +kernel)) rfl
theorem jw_06dd566a56 : Cond.static yX2_dueOn ∈ jj_G := jj_t3 (List.mem_of_getElem? (i := 81) (by decide +kernel)) rfl
theorem jn_X2_dueOn : jj_N yX2_dueOn 4 := by unfold jj_N; decide +kernel
theorem jw_b1f9248fb6 : Cond.instanceMethod yX1_quote ∈ jj_G := jj_t3 (List.mem_of_getElem? (i := 68) (by decide +kernel)) rfl
theorem jw_6c091437de : Cond.selects RX1 yX1_quote yX1_quote ∈ jj_G := jj_pv (q := (yX1_quote, 6)) (by decide +kernel)
theorem jn_X1_quote : jj_N yX1_quote 4 := by unfold jj_N; decide +kernel
theorem jw_eb03746c8c : Cond.instanceMethod yX1_tryRedemption ∈ jj_G := jj_t3 (List.mem_of_getElem? (i := 57) (by decide +kernel)) rfl
theorem jw_a203910c50 : Cond.selects RX1 yX1_tryRedemption yX1_tryRedemption ∈ jj_G := jj_pv (q := (yX1_tryRedemption, 6)) (by decide +kernel)
theorem jn_X1_tryRedemption : jj_N yX1_tryRedemption 4 := by unfold jj_N; decide +kernel
theorem jw_36bb45001b : Cond.instanceMethod yX1_baseOfRedemptions ∈ jj_G := jj_t3 (List.mem_of_getElem? (i := 39) (by decide +kernel)) rfl
theorem jw_b21f9198d3 : Cond.selects RX1 yX1_baseOfRedemptions yX1_baseOfRedemptions ∈ jj_G := jj_t3 (List.mem_of_getElem? (i := 40) (by decide +kernel)) rfl
theorem jn_X1_baseOfRedemptions : jj_N yX1_baseOfRedemptions 1 := by unfold jj_N; decide +kernel
theorem jw_a0e4d790fa : Cond.fieldLink RX10 30 "SeriesFund" "thought" "LSeriesFund$Book;" ∈ jj_G := jj_t2 (List.mem_of_getElem? (i := 101) (by decide +kernel)) rfl
theorem jw_4d0cb05860 : Cond.methodLink RX10 101 yX0_copyFrom ∈ jj_G := jj_t3 (List.mem_of_getElem? (i := 146) (by decide +kernel)) rfl
theorem jw_58241735d3 : Cond.code yX0_copyFrom cX0_copyFrom 3 none ∈ jj_G := jj_t3 (List.mem_of_getElem? (i := 149) (by decide +kernel)) rfl
theorem jw_cbdbdaad27 : Cond.fieldLink RX0 9 "SeriesFund$Book" "investors" "I" ∈ jj_G := jj_t1 (List.mem_of_getElem? (i := 205) (by decide +kernel)) rfl
theorem jw_4c8a2fbb77 : Cond.fieldLink RX0 15 "SeriesFund$Book" "method" "I" ∈ jj_G := jj_t1 (List.mem_of_getElem? (i := 209) (by decide +kernel)) rfl
theorem jw_950abe33c4 : Cond.fieldLink RX0 18 "SeriesFund$Book" "managementRate" "I" ∈ jj_G := jj_t1 (List.mem_of_getElem? (i := 214) (by decide +kernel)) rfl
theorem jw_d83bb35855 : Cond.fieldLink RX0 21 "SeriesFund$Book" "performanceFee" "I" ∈ jj_G := jj_t1 (List.mem_of_getElem? (i := 218) (by decide +kernel)) rfl
theorem jw_458b0311a8 : Cond.fieldLink RX0 24 "SeriesFund$Book" "gate" "I" ∈ jj_G := jj_t1 (List.mem_of_getElem? (i := 224) (by decide +kernel)) rfl
theorem jw_cd8f4320e7 : Cond.fieldLink RX0 27 "SeriesFund$Book" "day" "I" ∈ jj_G := jj_t1 (List.mem_of_getElem? (i := 227) (by decide +kernel)) rfl
theorem jw_cb51088522 : Cond.fieldLink RX0 30 "SeriesFund$Book" "opened" "I" ∈ jj_G := jj_t1 (List.mem_of_getElem? (i := 231) (by decide +kernel)) rfl
theorem jw_9d0ccd4490 : Cond.fieldLink RX0 36 "SeriesFund$Book" "lotCount" "I" ∈ jj_G := jj_t1 (List.mem_of_getElem? (i := 238) (by decide +kernel)) rfl
theorem jw_a6a6052378 : Cond.fieldLink RX0 39 "SeriesFund$Book" "requestCount" "I" ∈ jj_G := jj_t2 (List.mem_of_getElem? (i := 2) (by decide +kernel)) rfl
theorem jw_10b3e82d95 : Cond.fieldLink RX0 42 "SeriesFund$Book" "accounts" "[J" ∈ jj_G := jj_t2 (List.mem_of_getElem? (i := 5) (by decide +kernel)) rfl
theorem jw_241b9bc751 : Cond.fieldLink RX0 60 "SeriesFund$Book" "requests" "[LSeriesFund$Request;" ∈ jj_G := jj_t2 (List.mem_of_getElem? (i := 18) (by decide +kernel)) rfl
theorem jw_a0c005f9e3 : Cond.methodLink RX0 74 yX6_copyFrom ∈ jj_G := jj_t3 (List.mem_of_getElem? (i := 155) (by decide +kernel)) rfl
theorem jw_836011c9ed : Cond.code yX6_copyFrom cX6_copyFrom 2 none ∈ jj_G := jj_t3 (List.mem_of_getElem? (i := 158) (by decide +kernel)) rfl
theorem jw_37718511f3 : Cond.initialized RX6 ∈ jj_G := jj_t1 (List.mem_of_getElem? (i := 6) (by decide +kernel)) rfl
theorem jw_ab602f01ec : Cond.fieldLink RX6 7 "SeriesFund$Request" "investor" "I" ∈ jj_G := jj_t1 (List.mem_of_getElem? (i := 175) (by decide +kernel)) rfl
theorem jw_7cf5a36917 : Cond.fieldLink RX6 13 "SeriesFund$Request" "day" "I" ∈ jj_G := jj_t1 (List.mem_of_getElem? (i := 179) (by decide +kernel)) rfl
theorem jw_0e59eaf272 : Cond.fieldLink RX6 16 "SeriesFund$Request" "redemption" "Z" ∈ jj_G := jj_t1 (List.mem_of_getElem? (i := 182) (by decide +kernel)) rfl
theorem jw_7a5d14dc09 : Cond.fieldLink RX6 20 "SeriesFund$Request" "quantity" "J" ∈ jj_G := jj_t1 (List.mem_of_getElem? (i := 186) (by decide +kernel)) rfl
theorem jw_7941f64051 : Cond.fieldLink RX6 24 "SeriesFund$Request" "redeemed" "J" ∈ jj_G := jj_t1 (List.mem_of_getElem? (i := 190) (by decide +kernel)) rfl
theorem jw_602fa5615a : Cond.instanceMethod yX6_copyFrom ∈ jj_G := jj_t3 (List.mem_of_getElem? (i := 156) (by decide +kernel)) rfl
theorem jw_f4704c41b3 : Cond.selects RX6 yX6_copyFrom yX6_copyFrom ∈ jj_G := jj_t3 (List.mem_of_getElem? (i := 157) (by decide +kernel)) rfl
theorem jn_X6_copyFrom : jj_N yX6_copyFrom 1 := by unfold jj_N; decide +kernel
theorem jw_5f730213e9 : Cond.fieldLink RX0 54 "SeriesFund$Book" "lots" "[LSeriesFund$Lot;" ∈ jj_G := jj_t2 (List.mem_of_getElem? (i := 14) (by decide +kernel)) rfl
theorem jw_c7a5e11de7 : Cond.methodLink RX0 71 yX4_copyFrom ∈ jj_G := jj_t3 (List.mem_of_getElem? (i := 151) (by decide +kernel)) rfl
theorem jw_26dedf570e : Cond.code yX4_copyFrom cX4_copyFrom 2 none ∈ jj_G := jj_t3 (List.mem_of_getElem? (i := 154) (by decide +kernel)) rfl
theorem jw_2fe9664d28 : Cond.initialized RX4 ∈ jj_G := jj_t1 (List.mem_of_getElem? (i := 5) (by decide +kernel)) rfl
theorem jw_1bb0e54621 : Cond.fieldLink RX4 7 "SeriesFund$Lot" "investor" "I" ∈ jj_G := jj_t1 (List.mem_of_getElem? (i := 130) (by decide +kernel)) rfl
theorem jw_976779c271 : Cond.fieldLink RX4 13 "SeriesFund$Lot" "series" "I" ∈ jj_G := jj_t1 (List.mem_of_getElem? (i := 134) (by decide +kernel)) rfl
theorem jw_2fcb3f5de7 : Cond.fieldLink RX4 16 "SeriesFund$Lot" "day" "I" ∈ jj_G := jj_t1 (List.mem_of_getElem? (i := 139) (by decide +kernel)) rfl
theorem jw_45db99320d : Cond.fieldLink RX4 19 "SeriesFund$Lot" "units" "J" ∈ jj_G := jj_t1 (List.mem_of_getElem? (i := 142) (by decide +kernel)) rfl
theorem jw_ad4dde1162 : Cond.fieldLink RX4 23 "SeriesFund$Lot" "entryPrice" "J" ∈ jj_G := jj_t1 (List.mem_of_getElem? (i := 147) (by decide +kernel)) rfl
theorem jw_c6a8dac0f8 : Cond.fieldLink RX4 26 "SeriesFund$Lot" "credit" "J" ∈ jj_G := jj_t1 (List.mem_of_getElem? (i := 152) (by decide +kernel)) rfl
theorem jw_a89944d251 : Cond.instanceMethod yX4_copyFrom ∈ jj_G := jj_t3 (List.mem_of_getElem? (i := 152) (by decide +kernel)) rfl
theorem jw_dd85a2718f : Cond.selects RX4 yX4_copyFrom yX4_copyFrom ∈ jj_G := jj_t3 (List.mem_of_getElem? (i := 153) (by decide +kernel)) rfl
theorem jn_X4_copyFrom : jj_N yX4_copyFrom 1 := by unfold jj_N; decide +kernel
theorem jw_44ed65faaa : Cond.methodLink RX0 67 yX8_copyFrom ∈ jj_G := jj_t3 (List.mem_of_getElem? (i := 150) (by decide +kernel)) rfl
theorem jw_8aa1bdb2cc : Cond.instanceMethod yX0_copyFrom ∈ jj_G := jj_t3 (List.mem_of_getElem? (i := 147) (by decide +kernel)) rfl
theorem jw_ac98d74d03 : Cond.selects RX0 yX0_copyFrom yX0_copyFrom ∈ jj_G := jj_t3 (List.mem_of_getElem? (i := 148) (by decide +kernel)) rfl
theorem jn_X0_copyFrom : jj_N yX0_copyFrom 1 := by unfold jj_N; decide +kernel
theorem jw_d8242cd3dc : Cond.fieldLink RX10 176 "SeriesFund$Book" "gate" "I" ∈ jj_G := jj_t1 (List.mem_of_getElem? (i := 226) (by decide +kernel)) rfl
theorem jw_4ebc084d1c : Cond.methodLink RX10 340 yX1_redeemWaiting ∈ jj_G := jj_t6 (List.mem_of_getElem? (i := 35) (by decide +kernel)) rfl
theorem jw_4b6b3c5714 : Cond.code yX1_redeemWaiting cX1_redeemWaiting 10 none ∈ jj_G := jj_t3 (List.mem_of_getElem? (i := 88) (by decide +kernel)) rfl
theorem jw_15296f1f2f : Cond.methodLink RX1 52 yX0_limitOfGate ∈ jj_G := jj_t3 (List.mem_of_getElem? (i := 89) (by decide +kernel)) rfl
theorem jw_2cb5ab9c9b : Cond.code yX0_limitOfGate cX0_limitOfGate 1 (some .long) ∈ jj_G := jj_t3 (List.mem_of_getElem? (i := 92) (by decide +kernel)) rfl
theorem jw_4759a1f4d5 : Cond.methodLink RX0 96 yX0_netOfAll ∈ jj_G := jj_t3 (List.mem_of_getElem? (i := 93) (by decide +kernel)) rfl
theorem jw_144409f761 : Cond.code yX0_netOfAll cX0_netOfAll 4 (some .long) ∈ jj_G := jj_t3 (List.mem_of_getElem? (i := 96) (by decide +kernel)) rfl
theorem jw_63df8fd9f3 : Cond.fieldLink RX0 89 "SeriesFund$Series" "assets" "J" ∈ jj_G := jj_t1 (List.mem_of_getElem? (i := 100) (by decide +kernel)) rfl
theorem jw_22b16a02fe : Cond.methodLink RX0 92 yX8_accruedFee ∈ jj_G := jj_t3 (List.mem_of_getElem? (i := 97) (by decide +kernel)) rfl
theorem jw_26ce198b3a : Cond.instanceMethod yX0_netOfAll ∈ jj_G := jj_t3 (List.mem_of_getElem? (i := 94) (by decide +kernel)) rfl
theorem jw_dfaafe33a2 : Cond.selects RX0 yX0_netOfAll yX0_netOfAll ∈ jj_G := jj_t3 (List.mem_of_getElem? (i := 95) (by decide +kernel)) rfl
theorem jn_X0_netOfAll : jj_N yX0_netOfAll 0 := by unfold jj_N; decide +kernel
theorem jw_11ede7347a : Cond.constantLong RX0 100 (100) ∈ jj_G := jj_t3 (List.mem_of_getElem? (i := 98) (by decide +kernel)) rfl
theorem jw_8472f5b5d1 : Cond.instanceMethod yX0_limitOfGate ∈ jj_G := jj_t3 (List.mem_of_getElem? (i := 90) (by decide +kernel)) rfl
theorem jw_62703c61d4 : Cond.selects RX0 yX0_limitOfGate yX0_limitOfGate ∈ jj_G := jj_t3 (List.mem_of_getElem? (i := 91) (by decide +kernel)) rfl
theorem jn_X0_limitOfGate : jj_N yX0_limitOfGate 0 := by unfold jj_N; decide +kernel
theorem jw_1492bd14bf : Cond.methodLink RX1 83 yX0_unitsHeldBy ∈ jj_G := jj_t3 (List.mem_of_getElem? (i := 115) (by decide +kernel)) rfl
theorem jw_325e36afd1 : Cond.code yX0_unitsHeldBy cX0_unitsHeldBy 5 (some .long) ∈ jj_G := jj_t3 (List.mem_of_getElem? (i := 118) (by decide +kernel)) rfl
theorem jw_89374484be : Cond.fieldLink RX0 77 "SeriesFund$Lot" "investor" "I" ∈ jj_G := jj_t1 (List.mem_of_getElem? (i := 131) (by decide +kernel)) rfl
theorem jw_1f6afd9b6f : Cond.fieldLink RX0 80 "SeriesFund$Lot" "units" "J" ∈ jj_G := jj_t1 (List.mem_of_getElem? (i := 143) (by decide +kernel)) rfl
theorem jw_473d3625aa : Cond.instanceMethod yX0_unitsHeldBy ∈ jj_G := jj_t3 (List.mem_of_getElem? (i := 116) (by decide +kernel)) rfl
theorem jw_4058f4329f : Cond.selects RX0 yX0_unitsHeldBy yX0_unitsHeldBy ∈ jj_G := jj_t3 (List.mem_of_getElem? (i := 117) (by decide +kernel)) rfl
theorem jn_X0_unitsHeldBy : jj_N yX0_unitsHeldBy 1 := by unfold jj_N; decide +kernel
theorem jw_b3a0db9039 : Cond.methodLink RX1 76 yX1_redeemUnits ∈ jj_G := jj_t3 (List.mem_of_getElem? (i := 99) (by decide +kernel)) rfl
theorem jw_3e3b96358f : Cond.code yX1_redeemUnits cX1_redeemUnits 12 (some .long) ∈ jj_G := jj_t3 (List.mem_of_getElem? (i := 102) (by decide +kernel)) rfl
theorem jw_df73fbb9d2 : Cond.methodLink RX1 146 yX0_dropEmptyLots ∈ jj_G := jj_t3 (List.mem_of_getElem? (i := 107) (by decide +kernel)) rfl
theorem jw_a434f13787 : Cond.code yX0_dropEmptyLots cX0_dropEmptyLots 4 none ∈ jj_G := jj_t3 (List.mem_of_getElem? (i := 110) (by decide +kernel)) rfl
theorem jw_4c160b89cc : Cond.instanceMethod yX0_dropEmptyLots ∈ jj_G := jj_t3 (List.mem_of_getElem? (i := 108) (by decide +kernel)) rfl
theorem jw_530d6cba9c : Cond.selects RX0 yX0_dropEmptyLots yX0_dropEmptyLots ∈ jj_G := jj_t3 (List.mem_of_getElem? (i := 109) (by decide +kernel)) rfl
theorem jn_X0_dropEmptyLots : jj_N yX0_dropEmptyLots 0 := by unfold jj_N; decide +kernel
theorem jw_20fbae2be8 : Cond.methodLink RX1 149 yX0_closeEmptySeries ∈ jj_G := jj_t3 (List.mem_of_getElem? (i := 111) (by decide +kernel)) rfl
theorem jw_a8b63f05be : Cond.code yX0_closeEmptySeries cX0_closeEmptySeries 4 none ∈ jj_G := jj_t3 (List.mem_of_getElem? (i := 114) (by decide +kernel)) rfl
theorem jw_aea96b82d1 : Cond.fieldLink RX0 134 "SeriesFund$Series" "units" "J" ∈ jj_G := jj_t1 (List.mem_of_getElem? (i := 105) (by decide +kernel)) rfl
theorem jw_dc112f793f : Cond.instanceMethod yX0_closeEmptySeries ∈ jj_G := jj_t3 (List.mem_of_getElem? (i := 112) (by decide +kernel)) rfl
theorem jw_3493203194 : Cond.selects RX0 yX0_closeEmptySeries yX0_closeEmptySeries ∈ jj_G := jj_t3 (List.mem_of_getElem? (i := 113) (by decide +kernel)) rfl
theorem jn_X0_closeEmptySeries : jj_N yX0_closeEmptySeries 0 := by unfold jj_N; decide +kernel
theorem jw_76246e00a3 : Cond.methodLink RX1 143 yX1_takeOut ∈ jj_G := jj_t3 (List.mem_of_getElem? (i := 103) (by decide +kernel)) rfl
theorem jw_c6c6c8654b : Cond.code yX1_takeOut cX1_takeOut 6 none ∈ jj_G := jj_t3 (List.mem_of_getElem? (i := 106) (by decide +kernel)) rfl
theorem jw_489e37c5a2 : Cond.fieldLink RX1 155 "SeriesFund$Book" "accounts" "[J" ∈ jj_G := jj_t2 (List.mem_of_getElem? (i := 7) (by decide +kernel)) rfl
theorem jw_81cb4c6f28 : Cond.instanceMethod yX1_takeOut ∈ jj_G := jj_t3 (List.mem_of_getElem? (i := 105) (by decide +kernel)) rfl
theorem jw_4b742d2228 : Cond.selects RX1 yX1_takeOut yX1_takeOut ∈ jj_G := jj_pv (q := (yX1_takeOut, 6)) (by decide +kernel)
theorem jn_X1_takeOut : jj_N yX1_takeOut 4 := by unfold jj_N; decide +kernel
theorem jw_e6d8fe438f : Cond.instanceMethod yX1_redeemUnits ∈ jj_G := jj_t3 (List.mem_of_getElem? (i := 101) (by decide +kernel)) rfl
theorem jw_4f8648c5ef : Cond.selects RX1 yX1_redeemUnits yX1_redeemUnits ∈ jj_G := jj_pv (q := (yX1_redeemUnits, 6)) (by decide +kernel)
theorem jn_X1_redeemUnits : jj_N yX1_redeemUnits 3 := by unfold jj_N; decide +kernel
theorem jw_b3181e6a54 : Cond.fieldLink RX1 80 "SeriesFund$Request" "redeemed" "J" ∈ jj_G := jj_t1 (List.mem_of_getElem? (i := 191) (by decide +kernel)) rfl
theorem jw_1a80919bc4 : Cond.instanceMethod yX1_redeemWaiting ∈ jj_G := jj_t3 (List.mem_of_getElem? (i := 86) (by decide +kernel)) rfl
theorem jw_88c712b448 : Cond.selects RX1 yX1_redeemWaiting yX1_redeemWaiting ∈ jj_G := jj_t3 (List.mem_of_getElem? (i := 87) (by decide +kernel)) rfl
theorem jn_X1_redeemWaiting : jj_N yX1_redeemWaiting 2 := by unfold jj_N; decide +kernel
theorem jw_f02a789dc3 : Cond.methodLink RX10 350 yX0_isDone ∈ jj_G := jj_t6 (List.mem_of_getElem? (i := 44) (by decide +kernel)) rfl
theorem jw_6fd96817b4 : Cond.code yX0_isDone cX0_isDone 2 (some .boolean) ∈ jj_G := jj_t6 (List.mem_of_getElem? (i := 47) (by decide +kernel)) rfl
theorem jw_bfa82f796d : Cond.fieldLink RX0 167 "SeriesFund$Request" "quantity" "J" ∈ jj_G := jj_t1 (List.mem_of_getElem? (i := 189) (by decide +kernel)) rfl
theorem jw_e1b2fb4f9f : Cond.instanceMethod yX0_isDone ∈ jj_G := jj_t6 (List.mem_of_getElem? (i := 45) (by decide +kernel)) rfl
theorem jw_abc4721ff3 : Cond.selects RX0 yX0_isDone yX0_isDone ∈ jj_G := jj_t6 (List.mem_of_getElem? (i := 46) (by decide +kernel)) rfl
theorem jn_X0_isDone : jj_N yX0_isDone 1 := by unfold jj_N; decide +kernel
theorem jw_5e6427264b : Cond.fieldLink RX10 250 "SeriesFund$Book" "series" "[LSeriesFund$Series;" ∈ jj_G := jj_t2 (List.mem_of_getElem? (i := 13) (by decide +kernel)) rfl
theorem jw_58e2ad5394 : Cond.methodLink RX10 259 yX10_placeOf ∈ jj_G := jj_t5 (List.mem_of_getElem? (i := 173) (by decide +kernel)) rfl
theorem jw_94c9b2f9a1 : Cond.code yX10_placeOf cX10_placeOf 3 (some .int) ∈ jj_G := jj_t5 (List.mem_of_getElem? (i := 176) (by decide +kernel)) rfl
theorem jw_f69c658025 : Cond.methodLink RX10 209 yX0_placeOfSeries ∈ jj_G := jj_t5 (List.mem_of_getElem? (i := 177) (by decide +kernel)) rfl
theorem jw_525f0659e7 : Cond.instanceMethod yX10_placeOf ∈ jj_G := jj_t5 (List.mem_of_getElem? (i := 175) (by decide +kernel)) rfl
theorem jw_f9e77116d6 : Cond.selects RX10 yX10_placeOf yX10_placeOf ∈ jj_G := jj_pv (q := (yX10_placeOf, 10)) (by decide +kernel)
theorem jn_X10_placeOf : jj_N yX10_placeOf 1 := by unfold jj_N; decide +kernel
theorem jw_844ae35f40 : Cond.methodLink RX10 362 yX8_assetsAfter ∈ jj_G := jj_t6 (List.mem_of_getElem? (i := 69) (by decide +kernel)) rfl
theorem jw_510b108555 : Cond.methodLink RX10 365 yX8_priceWith ∈ jj_G := jj_t6 (List.mem_of_getElem? (i := 70) (by decide +kernel)) rfl
theorem jw_62a4e9d3ce : Cond.code yX8_priceWith cX8_priceWith 3 (some .long) ∈ jj_G := jj_t4 (List.mem_of_getElem? (i := 57) (by decide +kernel)) rfl
theorem jw_2e72231b40 : Cond.instanceMethod yX8_priceWith ∈ jj_G := jj_t4 (List.mem_of_getElem? (i := 55) (by decide +kernel)) rfl
theorem jw_b9c09a9015 : Cond.selects RX8 yX8_priceWith yX8_priceWith ∈ jj_G := jj_t4 (List.mem_of_getElem? (i := 56) (by decide +kernel)) rfl
theorem jn_X8_priceWith : jj_N yX8_priceWith 1 := by unfold jj_N; decide +kernel
theorem jw_c12516f493 : Cond.fieldLink RX10 268 "SeriesFund$Series" "mark" "J" ∈ jj_G := jj_t1 (List.mem_of_getElem? (i := 112) (by decide +kernel)) rfl
theorem jw_bdc927d6c1 : Cond.methodLink RX10 374 yJ9_floorDiv_7cf53 ∈ jj_G := jj_t6 (List.mem_of_getElem? (i := 87) (by decide +kernel)) rfl
theorem jw_44648bf58a : Cond.code yJ9_floorDiv_7cf53 cJ9_floorDiv_7cf53 3 (some .int) ∈ jj_G := jj_t6 (List.mem_of_getElem? (i := 89) (by decide +kernel)) rfl
theorem jw_7ca1dfa404 : Cond.static yJ9_floorDiv_7cf53 ∈ jj_G := jj_t6 (List.mem_of_getElem? (i := 88) (by decide +kernel)) rfl
theorem jn_J9_floorDiv_7cf53 : jj_N yJ9_floorDiv_7cf53 2 := by unfold jj_N; decide +kernel
theorem jt_RX10_373 : jj_TX RX10 373 "java/util/NoSuchElementException" 13 prog_31_method_4_code ["java/lang/RuntimeException", "java/lang/Exception"] := ⟨by decide +kernel, by decide +kernel, by decide +kernel, by decide +kernel, by decide +kernel, by decide +kernel, by decide +kernel, by decide +kernel, by decide +kernel, by decide +kernel⟩
theorem jw_0faceffafb : Cond.classLink RX10 369 "java/util/NoSuchElementException" ∈ jj_G := jj_t6 (List.mem_of_getElem? (i := 71) (by decide +kernel)) rfl
theorem jw_ea0f6256bc : Cond.fieldLink RX10 212 "SeriesFund$Book" "investors" "I" ∈ jj_G := jj_t1 (List.mem_of_getElem? (i := 208) (by decide +kernel)) rfl
theorem jw_7afa966693 : Cond.fieldLink RX10 215 "SeriesFund$Book" "method" "I" ∈ jj_G := jj_t1 (List.mem_of_getElem? (i := 213) (by decide +kernel)) rfl
theorem jw_35a1d0bbc5 : Cond.fieldLink RX10 218 "SeriesFund$Book" "managementRate" "I" ∈ jj_G := jj_t1 (List.mem_of_getElem? (i := 217) (by decide +kernel)) rfl
theorem jw_649edee56e : Cond.fieldLink RX10 221 "SeriesFund$Book" "performanceFee" "I" ∈ jj_G := jj_t1 (List.mem_of_getElem? (i := 223) (by decide +kernel)) rfl
theorem jw_d93e75483f : Cond.fieldLink RX10 224 "SeriesFund$Book" "day" "I" ∈ jj_G := jj_t1 (List.mem_of_getElem? (i := 230) (by decide +kernel)) rfl
theorem jw_cf775c5646 : Cond.fieldLink RX10 227 "SeriesFund$Book" "seriesCount" "I" ∈ jj_G := jj_t1 (List.mem_of_getElem? (i := 237) (by decide +kernel)) rfl
theorem jw_e8db4e7185 : Cond.fieldLink RX10 230 "SeriesFund$Book" "lotCount" "I" ∈ jj_G := jj_t2 (List.mem_of_getElem? (i := 1) (by decide +kernel)) rfl
theorem jw_7f8dd988be : Cond.fieldLink RX10 233 "SeriesFund$Book" "opened" "I" ∈ jj_G := jj_t1 (List.mem_of_getElem? (i := 232) (by decide +kernel)) rfl
theorem jw_29489d1cd8 : Cond.methodLink RX10 238 yX0_netOfAll ∈ jj_G := jj_t4 (List.mem_of_getElem? (i := 77) (by decide +kernel)) rfl
theorem jw_40af446357 : Cond.methodLink RX10 152 yX2_chargeDays ∈ jj_G := jj_t5 (List.mem_of_getElem? (i := 107) (by decide +kernel)) rfl
theorem jw_5ec919523f : Cond.code yX2_chargeDays cX2_chargeDays 8 (some .long) ∈ jj_G := jj_t4 (List.mem_of_getElem? (i := 69) (by decide +kernel)) rfl
theorem jw_fcf7ccfd1e : Cond.fieldLink RX2 13 "SeriesFund$Book" "seriesCount" "I" ∈ jj_G := jj_t1 (List.mem_of_getElem? (i := 235) (by decide +kernel)) rfl
theorem jw_f6870f6593 : Cond.fieldLink RX2 50 "SeriesFund$Book" "day" "I" ∈ jj_G := jj_t1 (List.mem_of_getElem? (i := 229) (by decide +kernel)) rfl
theorem jw_d4020bdca8 : Cond.fieldLink RX2 41 "SeriesFund$Book" "accounts" "[J" ∈ jj_G := jj_t2 (List.mem_of_getElem? (i := 6) (by decide +kernel)) rfl
theorem jw_2bd072191f : Cond.fieldLink RX2 19 "SeriesFund$Book" "series" "[LSeriesFund$Series;" ∈ jj_G := jj_t2 (List.mem_of_getElem? (i := 11) (by decide +kernel)) rfl
theorem jw_5719898240 : Cond.fieldLink RX2 37 "SeriesFund$Series" "assets" "J" ∈ jj_G := jj_t1 (List.mem_of_getElem? (i := 98) (by decide +kernel)) rfl
theorem jw_5b16254c28 : Cond.fieldLink RX2 45 "SeriesFund$Book" "managementRate" "I" ∈ jj_G := jj_t1 (List.mem_of_getElem? (i := 216) (by decide +kernel)) rfl
theorem jw_98ea58c985 : Cond.constantLong RX2 48 (3650000) ∈ jj_G := jj_t4 (List.mem_of_getElem? (i := 70) (by decide +kernel)) rfl
theorem jw_f7a6df989a : Cond.static yX2_chargeDays ∈ jj_G := jj_t4 (List.mem_of_getElem? (i := 68) (by decide +kernel)) rfl
theorem jn_X2_chargeDays : jj_N yX2_chargeDays 2 := by unfold jj_N; decide +kernel
theorem jw_3c741f7fe7 : Cond.methodLink RX10 347 yX1_subscribeWaiting ∈ jj_G := jj_t6 (List.mem_of_getElem? (i := 43) (by decide +kernel)) rfl
theorem jw_869633d7b1 : Cond.code yX1_subscribeWaiting cX1_subscribeWaiting 5 none ∈ jj_G := jj_t3 (List.mem_of_getElem? (i := 122) (by decide +kernel)) rfl
theorem jw_f8b562a13a : Cond.methodLink RX1 183 yX1_takeIn ∈ jj_G := jj_t3 (List.mem_of_getElem? (i := 123) (by decide +kernel)) rfl
theorem jw_ab8304a739 : Cond.code yX1_takeIn cX1_takeIn 12 (some .boolean) ∈ jj_G := jj_t3 (List.mem_of_getElem? (i := 126) (by decide +kernel)) rfl
theorem jw_39e30070ed : Cond.constantLong RX1 187 (1000000) ∈ jj_G := jj_t3 (List.mem_of_getElem? (i := 127) (by decide +kernel)) rfl
theorem jw_8b2b15bcdc : Cond.constantLong RX1 189 (100000) ∈ jj_G := jj_t3 (List.mem_of_getElem? (i := 128) (by decide +kernel)) rfl
theorem jw_c1baced628 : Cond.constantLong RX1 191 (10000000) ∈ jj_G := jj_t3 (List.mem_of_getElem? (i := 129) (by decide +kernel)) rfl
theorem jw_40082dbd80 : Cond.methodLink RX1 193 yX0_beginSeries ∈ jj_G := jj_t3 (List.mem_of_getElem? (i := 130) (by decide +kernel)) rfl
theorem jw_89a78d52f3 : Cond.code yX0_beginSeries cX0_beginSeries 2 (some (.object "SeriesFund$Series")) ∈ jj_G := jj_t3 (List.mem_of_getElem? (i := 133) (by decide +kernel)) rfl
theorem jw_91b79dc18e : Cond.methodLink RX0 120 yJ9_min_7cf53 ∈ jj_G := jj_t3 (List.mem_of_getElem? (i := 31) (by decide +kernel)) rfl
theorem jw_7adaf59315 : Cond.code yJ9_min_7cf53 cJ9_min_7cf53 2 (some .int) ∈ jj_G := jj_t3 (List.mem_of_getElem? (i := 33) (by decide +kernel)) rfl
theorem jw_bd781c2022 : Cond.static yJ9_min_7cf53 ∈ jj_G := jj_t3 (List.mem_of_getElem? (i := 32) (by decide +kernel)) rfl
theorem jn_J9_min_7cf53 : jj_N yJ9_min_7cf53 2 := by unfold jj_N; decide +kernel
theorem jw_e15097ce9f : Cond.methodLink RX0 126 yX8_begin ∈ jj_G := jj_t3 (List.mem_of_getElem? (i := 134) (by decide +kernel)) rfl
theorem jw_41b0aa9f03 : Cond.code yX8_begin cX8_begin 3 none ∈ jj_G := jj_t3 (List.mem_of_getElem? (i := 137) (by decide +kernel)) rfl
theorem jw_58707122d2 : Cond.instanceMethod yX8_begin ∈ jj_G := jj_t3 (List.mem_of_getElem? (i := 135) (by decide +kernel)) rfl
theorem jw_34aa51ed7c : Cond.selects RX8 yX8_begin yX8_begin ∈ jj_G := jj_t3 (List.mem_of_getElem? (i := 136) (by decide +kernel)) rfl
theorem jn_X8_begin : jj_N yX8_begin 2 := by unfold jj_N; decide +kernel
theorem jw_d38a131825 : Cond.instanceMethod yX0_beginSeries ∈ jj_G := jj_t3 (List.mem_of_getElem? (i := 131) (by decide +kernel)) rfl
theorem jw_91f7b54243 : Cond.selects RX0 yX0_beginSeries yX0_beginSeries ∈ jj_G := jj_t3 (List.mem_of_getElem? (i := 132) (by decide +kernel)) rfl
theorem jn_X0_beginSeries : jj_N yX0_beginSeries 0 := by unfold jj_N; decide +kernel
theorem jw_e7cfa07cc9 : Cond.fieldLink RX1 197 "SeriesFund$Series" "number" "I" ∈ jj_G := jj_t1 (List.mem_of_getElem? (i := 93) (by decide +kernel)) rfl
theorem jw_336fd576a9 : Cond.methodLink RX1 200 yX0_addLot ∈ jj_G := jj_t3 (List.mem_of_getElem? (i := 138) (by decide +kernel)) rfl
theorem jw_a7bf4567f9 : Cond.code yX0_addLot cX0_addLot 11 (some (.object "SeriesFund$Lot")) ∈ jj_G := jj_t3 (List.mem_of_getElem? (i := 141) (by decide +kernel)) rfl
theorem jw_53dba63b8f : Cond.fieldLink RX0 84 "SeriesFund$Lot" "series" "I" ∈ jj_G := jj_t1 (List.mem_of_getElem? (i := 135) (by decide +kernel)) rfl
theorem jw_8e377b7e50 : Cond.fieldLink RX0 114 "SeriesFund$Lot" "entryPrice" "J" ∈ jj_G := jj_t1 (List.mem_of_getElem? (i := 150) (by decide +kernel)) rfl
theorem jw_b0cee064c2 : Cond.fieldLink RX0 130 "SeriesFund$Lot" "credit" "J" ∈ jj_G := jj_t1 (List.mem_of_getElem? (i := 155) (by decide +kernel)) rfl
theorem jw_f798be12c7 : Cond.fieldLink RX0 133 "SeriesFund$Lot" "day" "I" ∈ jj_G := jj_t1 (List.mem_of_getElem? (i := 140) (by decide +kernel)) rfl
theorem jw_c1ec506c02 : Cond.instanceMethod yX0_addLot ∈ jj_G := jj_t3 (List.mem_of_getElem? (i := 139) (by decide +kernel)) rfl
theorem jw_0fb782f899 : Cond.selects RX0 yX0_addLot yX0_addLot ∈ jj_G := jj_t3 (List.mem_of_getElem? (i := 140) (by decide +kernel)) rfl
theorem jn_X0_addLot : jj_N yX0_addLot 5 := by unfold jj_N; decide +kernel
theorem jw_21a15b8ce7 : Cond.instanceMethod yX1_takeIn ∈ jj_G := jj_t3 (List.mem_of_getElem? (i := 125) (by decide +kernel)) rfl
theorem jw_132c0f9459 : Cond.selects RX1 yX1_takeIn yX1_takeIn ∈ jj_G := jj_pv (q := (yX1_takeIn, 6)) (by decide +kernel)
theorem jn_X1_takeIn : jj_N yX1_takeIn 3 := by unfold jj_N; decide +kernel
theorem jw_fbad23a485 : Cond.instanceMethod yX1_subscribeWaiting ∈ jj_G := jj_t3 (List.mem_of_getElem? (i := 120) (by decide +kernel)) rfl
theorem jw_3bcef26e8b : Cond.selects RX1 yX1_subscribeWaiting yX1_subscribeWaiting ∈ jj_G := jj_t3 (List.mem_of_getElem? (i := 121) (by decide +kernel)) rfl
theorem jn_X1_subscribeWaiting : jj_N yX1_subscribeWaiting 1 := by unfold jj_N; decide +kernel
theorem jw_48ce033fa0 : Cond.methodLink RX10 353 yX0_doneBefore ∈ jj_G := jj_t6 (List.mem_of_getElem? (i := 48) (by decide +kernel)) rfl
theorem jw_470e53a243 : Cond.code yX0_doneBefore cX0_doneBefore 4 (some .int) ∈ jj_G := jj_t6 (List.mem_of_getElem? (i := 51) (by decide +kernel)) rfl
theorem jw_edc8c890e5 : Cond.instanceMethod yX0_doneBefore ∈ jj_G := jj_t6 (List.mem_of_getElem? (i := 49) (by decide +kernel)) rfl
theorem jw_8742f05eea : Cond.selects RX0 yX0_doneBefore yX0_doneBefore ∈ jj_G := jj_t6 (List.mem_of_getElem? (i := 50) (by decide +kernel)) rfl
theorem jn_X0_doneBefore : jj_N yX0_doneBefore 1 := by unfold jj_N; decide +kernel
theorem jw_327622d677 : Cond.methodLink RX10 356 yX0_dropDoneRequests ∈ jj_G := jj_t6 (List.mem_of_getElem? (i := 52) (by decide +kernel)) rfl
theorem jw_77bdbcf71c : Cond.code yX0_dropDoneRequests cX0_dropDoneRequests 4 (some .int) ∈ jj_G := jj_t3 (List.mem_of_getElem? (i := 145) (by decide +kernel)) rfl
theorem jw_8c2aa441ca : Cond.instanceMethod yX0_dropDoneRequests ∈ jj_G := jj_t3 (List.mem_of_getElem? (i := 143) (by decide +kernel)) rfl
theorem jw_a9b330a1c3 : Cond.selects RX0 yX0_dropDoneRequests yX0_dropDoneRequests ∈ jj_G := jj_t3 (List.mem_of_getElem? (i := 144) (by decide +kernel)) rfl
theorem jn_X0_dropDoneRequests : jj_N yX0_dropDoneRequests 0 := by unfold jj_N; decide +kernel
theorem jw_c72acbc4af : Cond.methodLink RX10 138 yX2_earningFault ∈ jj_G := jj_t5 (List.mem_of_getElem? (i := 97) (by decide +kernel)) rfl
theorem jw_4786ed9c56 : Cond.code yX2_earningFault cX2_earningFault 5 (some .int) ∈ jj_G := jj_t4 (List.mem_of_getElem? (i := 51) (by decide +kernel)) rfl
theorem jw_ce40e6c69a : Cond.methodLink RX2 23 yX8_assetsAfter ∈ jj_G := jj_t4 (List.mem_of_getElem? (i := 52) (by decide +kernel)) rfl
theorem jw_aeeb253457 : Cond.constantLong RX2 29 (1000000000) ∈ jj_G := jj_t4 (List.mem_of_getElem? (i := 53) (by decide +kernel)) rfl
theorem jw_4bde7a86c3 : Cond.methodLink RX2 31 yX8_priceWith ∈ jj_G := jj_t4 (List.mem_of_getElem? (i := 54) (by decide +kernel)) rfl
theorem jw_d09b6db76b : Cond.constantLong RX2 35 (100000000) ∈ jj_G := jj_t4 (List.mem_of_getElem? (i := 58) (by decide +kernel)) rfl
theorem jw_49509baa4c : Cond.static yX2_earningFault ∈ jj_G := jj_t4 (List.mem_of_getElem? (i := 50) (by decide +kernel)) rfl
theorem jn_X2_earningFault : jj_N yX2_earningFault 2 := by unfold jj_N; decide +kernel
theorem jw_0283246098 : Cond.methodLink RX10 112 yX10_remember ∈ jj_G := jj_t3 (List.mem_of_getElem? (i := 171) (by decide +kernel)) rfl
theorem jw_eabf0b0f0c : Cond.code yX10_remember cX10_remember 1 none ∈ jj_G := jj_t3 (List.mem_of_getElem? (i := 174) (by decide +kernel)) rfl
theorem jw_f074b96d56 : Cond.fieldLink RX10 44 "SeriesFund" "newest" "I" ∈ jj_G := jj_t2 (List.mem_of_getElem? (i := 104) (by decide +kernel)) rfl
theorem jw_c7bfd4c89b : Cond.fieldLink RX10 40 "SeriesFund" "past" "[LSeriesFund$Book;" ∈ jj_G := jj_t2 (List.mem_of_getElem? (i := 103) (by decide +kernel)) rfl
theorem jw_e70c7fcb4b : Cond.classLink RX10 23 RX0 ∈ jj_G := jj_t1 (List.mem_of_getElem? (i := 71) (by decide +kernel)) rfl
theorem jw_3b2aa3361c : Cond.instantiable RX0 14 ∈ jj_G := jj_t1 (List.mem_of_getElem? (i := 72) (by decide +kernel)) rfl
theorem jw_6eb1e064fe : Cond.methodLink RX10 25 yX0_init ∈ jj_G := jj_t1 (List.mem_of_getElem? (i := 73) (by decide +kernel)) rfl
theorem jw_6e7d7095aa : Cond.instanceMethod yX0_init ∈ jj_G := jj_t1 (List.mem_of_getElem? (i := 74) (by decide +kernel)) rfl
theorem jw_b958fb03a7 : Cond.code yX0_init cX0_init 2 none ∈ jj_G := jj_t1 (List.mem_of_getElem? (i := 75) (by decide +kernel)) rfl
theorem jn_X0_init : jj_N yX0_init 0 := by unfold jj_N; decide +kernel
theorem jw_427985f7c9 : Cond.fieldLink RX10 47 "SeriesFund" "remembered" "I" ∈ jj_G := jj_t2 (List.mem_of_getElem? (i := 105) (by decide +kernel)) rfl
theorem jw_467be33587 : Cond.instanceMethod yX10_remember ∈ jj_G := jj_t3 (List.mem_of_getElem? (i := 173) (by decide +kernel)) rfl
theorem jw_328a25009e : Cond.selects RX10 yX10_remember yX10_remember ∈ jj_G := jj_pv (q := (yX10_remember, 10)) (by decide +kernel)
theorem jn_X10_remember : jj_N yX10_remember 0 := by unfold jj_N; decide +kernel
theorem jw_dcfc2cf167 : Cond.methodLink RX10 144 yX2_earnRate ∈ jj_G := jj_t5 (List.mem_of_getElem? (i := 98) (by decide +kernel)) rfl
theorem jw_806a366152 : Cond.code yX2_earnRate cX2_earnRate 7 (some .long) ∈ jj_G := jj_t4 (List.mem_of_getElem? (i := 66) (by decide +kernel)) rfl
theorem jw_545b666dd9 : Cond.static yX2_earnRate ∈ jj_G := jj_t4 (List.mem_of_getElem? (i := 65) (by decide +kernel)) rfl
theorem jn_X2_earnRate : jj_N yX2_earnRate 2 := by unfold jj_N; decide +kernel
theorem jw_8ae5fd1562 : Cond.methodLink RX10 271 yX8_accruedFee ∈ jj_G := jj_t5 (List.mem_of_getElem? (i := 178) (by decide +kernel)) rfl
theorem jw_c489a67580 : Cond.methodLink RX10 315 yX10_checkInvestor ∈ jj_G := jj_t5 (List.mem_of_getElem? (i := 208) (by decide +kernel)) rfl
theorem jw_a8b8d648f8 : Cond.code yX10_checkInvestor cX10_checkInvestor 2 none ∈ jj_G := jj_t5 (List.mem_of_getElem? (i := 211) (by decide +kernel)) rfl
theorem jw_fc7a355745 : Cond.methodLink RX10 205 yX0_hasInvestor ∈ jj_G := jj_t5 (List.mem_of_getElem? (i := 212) (by decide +kernel)) rfl
theorem jw_46cdbc56f6 : Cond.code yX0_hasInvestor cX0_hasInvestor 2 (some .boolean) ∈ jj_G := jj_t4 (List.mem_of_getElem? (i := 37) (by decide +kernel)) rfl
theorem jw_4b2ee875de : Cond.instanceMethod yX0_hasInvestor ∈ jj_G := jj_t4 (List.mem_of_getElem? (i := 35) (by decide +kernel)) rfl
theorem jw_b17a3ad3c3 : Cond.selects RX0 yX0_hasInvestor yX0_hasInvestor ∈ jj_G := jj_t4 (List.mem_of_getElem? (i := 36) (by decide +kernel)) rfl
theorem jn_X0_hasInvestor : jj_N yX0_hasInvestor 1 := by unfold jj_N; decide +kernel
theorem jw_a350a61418 : Cond.instanceMethod yX10_checkInvestor ∈ jj_G := jj_t5 (List.mem_of_getElem? (i := 210) (by decide +kernel)) rfl
theorem jw_0e27b6f20c : Cond.selects RX10 yX10_checkInvestor yX10_checkInvestor ∈ jj_G := jj_pv (q := (yX10_checkInvestor, 10)) (by decide +kernel)
theorem jn_X10_checkInvestor : jj_N yX10_checkInvestor 1 := by unfold jj_N; decide +kernel
theorem jw_340dc249df : Cond.methodLink RX10 318 yX0_unitsHeldIn ∈ jj_G := jj_t5 (List.mem_of_getElem? (i := 220) (by decide +kernel)) rfl
theorem jw_f5d838650a : Cond.code yX0_unitsHeldIn cX0_unitsHeldIn 6 (some .long) ∈ jj_G := jj_t4 (List.mem_of_getElem? (i := 143) (by decide +kernel)) rfl
theorem jw_44053edb24 : Cond.instanceMethod yX0_unitsHeldIn ∈ jj_G := jj_t4 (List.mem_of_getElem? (i := 141) (by decide +kernel)) rfl
theorem jw_82fd26a6fd : Cond.selects RX0 yX0_unitsHeldIn yX0_unitsHeldIn ∈ jj_G := jj_t4 (List.mem_of_getElem? (i := 142) (by decide +kernel)) rfl
theorem jn_X0_unitsHeldIn : jj_N yX0_unitsHeldIn 2 := by unfold jj_N; decide +kernel
theorem jw_698e2e28c6 : Cond.fieldLink RX10 290 "SeriesFund$Book" "lots" "[LSeriesFund$Lot;" ∈ jj_G := jj_t2 (List.mem_of_getElem? (i := 17) (by decide +kernel)) rfl
theorem jw_0de5e97919 : Cond.fieldLink RX10 294 "SeriesFund$Lot" "investor" "I" ∈ jj_G := jj_t1 (List.mem_of_getElem? (i := 133) (by decide +kernel)) rfl
theorem jw_a18fd9fd43 : Cond.fieldLink RX10 299 "SeriesFund$Lot" "series" "I" ∈ jj_G := jj_t1 (List.mem_of_getElem? (i := 138) (by decide +kernel)) rfl
theorem jw_7f3a16fee1 : Cond.fieldLink RX10 301 "SeriesFund$Lot" "units" "J" ∈ jj_G := jj_t1 (List.mem_of_getElem? (i := 146) (by decide +kernel)) rfl
theorem jw_4e4c523248 : Cond.fieldLink RX10 302 "SeriesFund$Lot" "entryPrice" "J" ∈ jj_G := jj_t1 (List.mem_of_getElem? (i := 151) (by decide +kernel)) rfl
theorem jw_82f58a213c : Cond.fieldLink RX10 305 "SeriesFund$Lot" "credit" "J" ∈ jj_G := jj_t1 (List.mem_of_getElem? (i := 156) (by decide +kernel)) rfl
theorem jw_b279b40b2b : Cond.fieldLink RX10 308 "SeriesFund$Lot" "day" "I" ∈ jj_G := jj_t1 (List.mem_of_getElem? (i := 141) (by decide +kernel)) rfl
theorem jw_d122cf007d : Cond.fieldLink RX10 254 "SeriesFund$Series" "number" "I" ∈ jj_G := jj_t1 (List.mem_of_getElem? (i := 94) (by decide +kernel)) rfl
theorem jw_eb8a322227 : Cond.methodLink RX10 148 yX2_passingFault ∈ jj_G := jj_t5 (List.mem_of_getElem? (i := 106) (by decide +kernel)) rfl
theorem jw_a8c5e8379d : Cond.code yX2_passingFault cX2_passingFault 1 (some .int) ∈ jj_G := jj_t4 (List.mem_of_getElem? (i := 61) (by decide +kernel)) rfl
theorem jw_e26adf7707 : Cond.static yX2_passingFault ∈ jj_G := jj_t4 (List.mem_of_getElem? (i := 60) (by decide +kernel)) rfl
theorem jn_X2_passingFault : jj_N yX2_passingFault 1 := by unfold jj_N; decide +kernel
theorem jw_db55a838d8 : Cond.methodLink RX10 379 yX10_firstRateInReach ∈ jj_G := jj_t6 (List.mem_of_getElem? (i := 97) (by decide +kernel)) rfl
theorem jw_cde1a8bddd : Cond.code yX10_firstRateInReach cX10_firstRateInReach 10 (some .int) ∈ jj_G := jj_t6 (List.mem_of_getElem? (i := 100) (by decide +kernel)) rfl
theorem jw_cb1732db9c : Cond.methodLink RX10 385 yX0_fallOfPay ∈ jj_G := jj_t6 (List.mem_of_getElem? (i := 101) (by decide +kernel)) rfl
theorem jw_7e5e56ada0 : Cond.code yX0_fallOfPay cX0_fallOfPay 5 (some .long) ∈ jj_G := jj_t6 (List.mem_of_getElem? (i := 104) (by decide +kernel)) rfl
theorem jw_65ae222895 : Cond.methodLink RX0 102 yX0_canBeDue ∈ jj_G := jj_t6 (List.mem_of_getElem? (i := 105) (by decide +kernel)) rfl
theorem jw_e876692b9b : Cond.code yX0_canBeDue cX0_canBeDue 3 (some .boolean) ∈ jj_G := jj_t6 (List.mem_of_getElem? (i := 108) (by decide +kernel)) rfl
theorem jw_86b162115f : Cond.methodLink RX0 110 yX0_placeOfSeries ∈ jj_G := jj_t6 (List.mem_of_getElem? (i := 109) (by decide +kernel)) rfl
theorem jw_e9cf2d287e : Cond.fieldLink RX0 117 "SeriesFund$Series" "mark" "J" ∈ jj_G := jj_t1 (List.mem_of_getElem? (i := 111) (by decide +kernel)) rfl
theorem jw_c8c4ed6f7d : Cond.instanceMethod yX0_canBeDue ∈ jj_G := jj_t6 (List.mem_of_getElem? (i := 107) (by decide +kernel)) rfl
theorem jw_181ee900e0 : Cond.selects RX0 yX0_canBeDue yX0_canBeDue ∈ jj_G := jj_pv (q := (yX0_canBeDue, 14)) (by decide +kernel)
theorem jn_X0_canBeDue : jj_N yX0_canBeDue 1 := by unfold jj_N; decide +kernel
theorem jw_916057ffd4 : Cond.constantLong RX0 106 (5) ∈ jj_G := jj_t6 (List.mem_of_getElem? (i := 110) (by decide +kernel)) rfl
theorem jw_c8e745edd7 : Cond.constantLong RX0 108 (100000) ∈ jj_G := jj_t6 (List.mem_of_getElem? (i := 111) (by decide +kernel)) rfl
theorem jw_04bf8fa913 : Cond.instanceMethod yX0_fallOfPay ∈ jj_G := jj_t6 (List.mem_of_getElem? (i := 102) (by decide +kernel)) rfl
theorem jw_f0b6d3e43c : Cond.selects RX0 yX0_fallOfPay yX0_fallOfPay ∈ jj_G := jj_t6 (List.mem_of_getElem? (i := 103) (by decide +kernel)) rfl
theorem jn_X0_fallOfPay : jj_N yX0_fallOfPay 1 := by unfold jj_N; decide +kernel
theorem jw_40c49444b1 : Cond.methodLink RX10 322 yX1_payAfterRate ∈ jj_G := jj_t5 (List.mem_of_getElem? (i := 228) (by decide +kernel)) rfl
theorem jw_8658218399 : Cond.code yX1_payAfterRate cX1_payAfterRate 4 (some .long) ∈ jj_G := jj_t5 (List.mem_of_getElem? (i := 231) (by decide +kernel)) rfl
theorem jw_0ae03504c0 : Cond.constantLong RX1 95 (9223372036854775807) ∈ jj_G := jj_t5 (List.mem_of_getElem? (i := 232) (by decide +kernel)) rfl
theorem jw_86c6c6dedf : Cond.instanceMethod yX1_payAfterRate ∈ jj_G := jj_t5 (List.mem_of_getElem? (i := 229) (by decide +kernel)) rfl
theorem jw_610440679d : Cond.selects RX1 yX1_payAfterRate yX1_payAfterRate ∈ jj_G := jj_t5 (List.mem_of_getElem? (i := 230) (by decide +kernel)) rfl
theorem jn_X1_payAfterRate : jj_N yX1_payAfterRate 3 := by unfold jj_N; decide +kernel
theorem jw_0368e331f0 : Cond.instanceMethod yX10_firstRateInReach ∈ jj_G := jj_t6 (List.mem_of_getElem? (i := 99) (by decide +kernel)) rfl
theorem jw_3f5783c4ce : Cond.selects RX10 yX10_firstRateInReach yX10_firstRateInReach ∈ jj_G := jj_pv (q := (yX10_firstRateInReach, 10)) (by decide +kernel)
theorem jn_X10_firstRateInReach : jj_N yX10_firstRateInReach 2 := by unfold jj_N; decide +kernel
theorem jw_8568ce5098 : Cond.methodLink RX10 119 yX0_redemptionFault ∈ jj_G := jj_t5 (List.mem_of_getElem? (i := 73) (by decide +kernel)) rfl
theorem jw_e45bbd4879 : Cond.code yX0_redemptionFault cX0_redemptionFault 3 (some .int) ∈ jj_G := jj_t4 (List.mem_of_getElem? (i := 42) (by decide +kernel)) rfl
theorem jw_d8d4914792 : Cond.methodLink RX0 135 yX0_hasInvestor ∈ jj_G := jj_t4 (List.mem_of_getElem? (i := 34) (by decide +kernel)) rfl
theorem jw_c6a9136e44 : Cond.constant RX0 139 (99999999) ∈ jj_G := jj_t4 (List.mem_of_getElem? (i := 43) (by decide +kernel)) rfl
theorem jw_a69bc0929e : Cond.methodLink RX0 143 yX0_unitsWaitingOf ∈ jj_G := jj_t4 (List.mem_of_getElem? (i := 44) (by decide +kernel)) rfl
theorem jw_fb2ca98b87 : Cond.code yX0_unitsWaitingOf cX0_unitsWaitingOf 5 (some .long) ∈ jj_G := jj_t4 (List.mem_of_getElem? (i := 47) (by decide +kernel)) rfl
theorem jw_9e238e4277 : Cond.fieldLink RX0 162 "SeriesFund$Request" "redemption" "Z" ∈ jj_G := jj_t1 (List.mem_of_getElem? (i := 184) (by decide +kernel)) rfl
theorem jw_5338707ba1 : Cond.fieldLink RX0 166 "SeriesFund$Request" "investor" "I" ∈ jj_G := jj_t1 (List.mem_of_getElem? (i := 177) (by decide +kernel)) rfl
theorem jw_cc201fd073 : Cond.instanceMethod yX0_unitsWaitingOf ∈ jj_G := jj_t4 (List.mem_of_getElem? (i := 45) (by decide +kernel)) rfl
theorem jw_2d4f72dead : Cond.selects RX0 yX0_unitsWaitingOf yX0_unitsWaitingOf ∈ jj_G := jj_t4 (List.mem_of_getElem? (i := 46) (by decide +kernel)) rfl
theorem jn_X0_unitsWaitingOf : jj_N yX0_unitsWaitingOf 1 := by unfold jj_N; decide +kernel
theorem jw_1b599813cf : Cond.methodLink RX0 140 yX0_unitsHeldBy ∈ jj_G := jj_t4 (List.mem_of_getElem? (i := 48) (by decide +kernel)) rfl
theorem jw_bffdf410dc : Cond.instanceMethod yX0_redemptionFault ∈ jj_G := jj_t4 (List.mem_of_getElem? (i := 40) (by decide +kernel)) rfl
theorem jw_694d163040 : Cond.selects RX0 yX0_redemptionFault yX0_redemptionFault ∈ jj_G := jj_t4 (List.mem_of_getElem? (i := 41) (by decide +kernel)) rfl
theorem jn_X0_redemptionFault : jj_N yX0_redemptionFault 2 := by unfold jj_N; decide +kernel
theorem jw_81a6c9ee6e : Cond.methodLink RX10 115 yX0_addRequest ∈ jj_G := jj_t5 (List.mem_of_getElem? (i := 65) (by decide +kernel)) rfl
theorem jw_1fad268463 : Cond.code yX0_addRequest cX0_addRequest 7 (some .int) ∈ jj_G := jj_t3 (List.mem_of_getElem? (i := 30) (by decide +kernel)) rfl
theorem jw_2f9658d53e : Cond.fieldLink RX0 170 "SeriesFund$Request" "redeemed" "J" ∈ jj_G := jj_t1 (List.mem_of_getElem? (i := 192) (by decide +kernel)) rfl
theorem jw_beab64789a : Cond.fieldLink RX0 173 "SeriesFund$Request" "day" "I" ∈ jj_G := jj_t1 (List.mem_of_getElem? (i := 180) (by decide +kernel)) rfl
theorem jw_4cd88e9d91 : Cond.instanceMethod yX0_addRequest ∈ jj_G := jj_t3 (List.mem_of_getElem? (i := 28) (by decide +kernel)) rfl
theorem jw_a895762d25 : Cond.selects RX0 yX0_addRequest yX0_addRequest ∈ jj_G := jj_t3 (List.mem_of_getElem? (i := 29) (by decide +kernel)) rfl
theorem jn_X0_addRequest : jj_N yX0_addRequest 3 := by unfold jj_N; decide +kernel
theorem jw_f4d6dfb048 : Cond.fieldLink RX10 53 "SeriesFund" "report" "LSeriesFund$Report;" ∈ jj_G := jj_t2 (List.mem_of_getElem? (i := 106) (by decide +kernel)) rfl
theorem jw_10614b509d : Cond.fieldLink RX10 393 "SeriesFund$Report" "length" "I" ∈ jj_G := jj_t2 (List.mem_of_getElem? (i := 87) (by decide +kernel)) rfl
theorem jw_3f89b16571 : Cond.laysFinal RX5 "SeriesFund$Report" "bytes" "[B" ∈ jj_G := jj_t2 (List.mem_of_getElem? (i := 89) (by decide +kernel)) rfl
theorem jw_b7f854f297 : Cond.lays RX5 "SeriesFund$Report" "length" "I" ∈ jj_G := jj_t2 (List.mem_of_getElem? (i := 91) (by decide +kernel)) rfl
theorem jw_d2b3cf1843 : Cond.laysFinal RX5 "SeriesFund$Report" "digits" "[B" ∈ jj_G := jj_t2 (List.mem_of_getElem? (i := 93) (by decide +kernel)) rfl
theorem ju_6 : ∀ w ∈ u_ws RX5 TX5 3, w ∈ jj_G := by
  intro w hw
  obtain ⟨k, hk, rfl⟩ := List.mem_map.mp hw
  have hk := List.mem_range.mp hk
  match k, hk with
  | 0, _ => exact jw_3f89b16571
  | 1, _ => exact jw_b7f854f297
  | 2, _ => exact jw_d2b3cf1843
  | n + 3, hk => exact absurd hk (by omega)
theorem jk_6 : jj_K 6 RX5 TX5 3 tyX5 := ⟨rfl, ju_6, tyX5_ok, nmX5⟩
theorem jd_6 : ∀ j, j < 3 → defaultValue (tyX5 j) = vp_V [.null, .int 0, .null] j := by
  intro j hj
  match j, hj with
  | 0, _ => rfl
  | 1, _ => rfl
  | 2, _ => rfl
  | n + 3, hj => exact absurd hj (by omega)
theorem jw_f1b6504204 : Cond.fieldLink RX10 398 "SeriesFund$Report" "bytes" "[B" ∈ jj_G := jj_t2 (List.mem_of_getElem? (i := 85) (by decide +kernel)) rfl
theorem jw_217793c05e : Cond.fieldLink RX10 309 "SeriesFund$Request" "investor" "I" ∈ jj_G := jj_t1 (List.mem_of_getElem? (i := 178) (by decide +kernel)) rfl
theorem jw_e3f21f06e1 : Cond.fieldLink RX10 129 "SeriesFund$Request" "quantity" "J" ∈ jj_G := jj_t1 (List.mem_of_getElem? (i := 188) (by decide +kernel)) rfl
theorem jw_5d7680295c : Cond.fieldLink RX10 314 "SeriesFund$Request" "day" "I" ∈ jj_G := jj_t1 (List.mem_of_getElem? (i := 181) (by decide +kernel)) rfl
theorem jw_3312ecfce8 : Cond.methodLink RX10 326 yX10_placeInRanking ∈ jj_G := jj_t6 (List.mem_of_getElem? (i := 0) (by decide +kernel)) rfl
theorem jw_1d9aa5a1ce : Cond.code yX10_placeInRanking cX10_placeInRanking 8 (some .int) ∈ jj_G := jj_t6 (List.mem_of_getElem? (i := 3) (by decide +kernel)) rfl
theorem jw_d5d710a83a : Cond.instanceMethod yX10_placeInRanking ∈ jj_G := jj_t6 (List.mem_of_getElem? (i := 2) (by decide +kernel)) rfl
theorem jw_ac6b30ff33 : Cond.selects RX10 yX10_placeInRanking yX10_placeInRanking ∈ jj_G := jj_pv (q := (yX10_placeInRanking, 10)) (by decide +kernel)
theorem jn_X10_placeInRanking : jj_N yX10_placeInRanking 1 := by unfold jj_N; decide +kernel
theorem jw_892efdc253 : Cond.fieldLink RX10 262 "SeriesFund$Series" "assets" "J" ∈ jj_G := jj_t1 (List.mem_of_getElem? (i := 101) (by decide +kernel)) rfl
theorem jw_617c733ec5 : Cond.fieldLink RX10 265 "SeriesFund$Series" "units" "J" ∈ jj_G := jj_t1 (List.mem_of_getElem? (i := 106) (by decide +kernel)) rfl
theorem jw_eab2b5c702 : Cond.methodLink RX10 274 yX8_grossPrice ∈ jj_G := jj_t5 (List.mem_of_getElem? (i := 179) (by decide +kernel)) rfl
theorem jw_1bdc8ebb17 : Cond.methodLink RX10 277 yX8_netPrice ∈ jj_G := jj_t5 (List.mem_of_getElem? (i := 180) (by decide +kernel)) rfl
theorem jw_9476451334 : Cond.code yX8_netPrice cX8_netPrice 2 (some .long) ∈ jj_G := jj_t4 (List.mem_of_getElem? (i := 137) (by decide +kernel)) rfl
theorem jw_51cf15601b : Cond.methodLink RX8 32 yX8_accruedFee ∈ jj_G := jj_t4 (List.mem_of_getElem? (i := 138) (by decide +kernel)) rfl
theorem jw_3333aa6e09 : Cond.methodLink RX8 36 yX8_priceWith ∈ jj_G := jj_t4 (List.mem_of_getElem? (i := 139) (by decide +kernel)) rfl
theorem jw_1bed268582 : Cond.instanceMethod yX8_netPrice ∈ jj_G := jj_t4 (List.mem_of_getElem? (i := 135) (by decide +kernel)) rfl
theorem jw_88114e5225 : Cond.selects RX8 yX8_netPrice yX8_netPrice ∈ jj_G := jj_t4 (List.mem_of_getElem? (i := 136) (by decide +kernel)) rfl
theorem jn_X8_netPrice : jj_N yX8_netPrice 1 := by unfold jj_N; decide +kernel
theorem jw_eb058fd8f4 : Cond.fieldLink RX10 280 "SeriesFund$Series" "startDay" "I" ∈ jj_G := jj_t1 (List.mem_of_getElem? (i := 96) (by decide +kernel)) rfl
theorem jw_ff015d1bff : Cond.methodLink RX10 283 yX0_lotsOfSeries ∈ jj_G := jj_t5 (List.mem_of_getElem? (i := 181) (by decide +kernel)) rfl
theorem jw_ce5b65608c : Cond.code yX0_lotsOfSeries cX0_lotsOfSeries 4 (some .int) ∈ jj_G := jj_t5 (List.mem_of_getElem? (i := 184) (by decide +kernel)) rfl
theorem jw_df45b7bfd4 : Cond.instanceMethod yX0_lotsOfSeries ∈ jj_G := jj_t5 (List.mem_of_getElem? (i := 182) (by decide +kernel)) rfl
theorem jw_ab5bfc66e4 : Cond.selects RX0 yX0_lotsOfSeries yX0_lotsOfSeries ∈ jj_G := jj_t5 (List.mem_of_getElem? (i := 183) (by decide +kernel)) rfl
theorem jn_X0_lotsOfSeries : jj_N yX0_lotsOfSeries 1 := by unfold jj_N; decide +kernel
theorem jt_RX10_333 : jj_T RX10 333 "java/lang/ArithmeticException" ["java/lang/RuntimeException", "java/lang/Exception"] := ⟨by decide +kernel, by decide +kernel, by decide +kernel, by decide +kernel, by decide +kernel, by decide +kernel⟩
theorem jw_20dc94e4d9 : Cond.classLink RX10 329 "java/lang/ArithmeticException" ∈ jj_G := jj_t6 (List.mem_of_getElem? (i := 25) (by decide +kernel)) rfl
theorem jw_82effba443 : Cond.methodLink RX10 105 yX0_subscriptionFault ∈ jj_G := jj_t5 (List.mem_of_getElem? (i := 46) (by decide +kernel)) rfl
theorem jw_29c1f216db : Cond.code yX0_subscriptionFault cX0_subscriptionFault 3 (some .int) ∈ jj_G := jj_t4 (List.mem_of_getElem? (i := 33) (by decide +kernel)) rfl
theorem jw_b5fe344b61 : Cond.constant RX0 161 (9999999) ∈ jj_G := jj_t4 (List.mem_of_getElem? (i := 38) (by decide +kernel)) rfl
theorem jw_0f470cf99b : Cond.instanceMethod yX0_subscriptionFault ∈ jj_G := jj_t4 (List.mem_of_getElem? (i := 31) (by decide +kernel)) rfl
theorem jw_b41d0555cc : Cond.selects RX0 yX0_subscriptionFault yX0_subscriptionFault ∈ jj_G := jj_t4 (List.mem_of_getElem? (i := 32) (by decide +kernel)) rfl
theorem jn_X0_subscriptionFault : jj_N yX0_subscriptionFault 2 := by unfold jj_N; decide +kernel
theorem jw_18e02b2319 : Cond.methodLink RX10 162 yX0_transferFault ∈ jj_G := jj_t5 (List.mem_of_getElem? (i := 115) (by decide +kernel)) rfl
theorem jw_aaaeb43ff8 : Cond.code yX0_transferFault cX0_transferFault 4 (some .int) ∈ jj_G := jj_t5 (List.mem_of_getElem? (i := 118) (by decide +kernel)) rfl
theorem jw_7dc5b0b3c8 : Cond.methodLink RX0 146 yX0_splitsLot ∈ jj_G := jj_t5 (List.mem_of_getElem? (i := 119) (by decide +kernel)) rfl
theorem jw_7310f8aa9c : Cond.code yX0_splitsLot cX0_splitsLot 7 (some .boolean) ∈ jj_G := jj_t5 (List.mem_of_getElem? (i := 122) (by decide +kernel)) rfl
theorem jw_b1520a7696 : Cond.instanceMethod yX0_splitsLot ∈ jj_G := jj_t5 (List.mem_of_getElem? (i := 121) (by decide +kernel)) rfl
theorem jw_216b1d33ad : Cond.selects RX0 yX0_splitsLot yX0_splitsLot ∈ jj_G := jj_pv (q := (yX0_splitsLot, 14)) (by decide +kernel)
theorem jn_X0_splitsLot : jj_N yX0_splitsLot 2 := by unfold jj_N; decide +kernel
theorem jw_6f3505a32b : Cond.instanceMethod yX0_transferFault ∈ jj_G := jj_t5 (List.mem_of_getElem? (i := 116) (by decide +kernel)) rfl
theorem jw_6a9f65fed1 : Cond.selects RX0 yX0_transferFault yX0_transferFault ∈ jj_G := jj_t5 (List.mem_of_getElem? (i := 117) (by decide +kernel)) rfl
theorem jn_X0_transferFault : jj_N yX0_transferFault 3 := by unfold jj_N; decide +kernel
theorem jw_5f9932b008 : Cond.methodLink RX10 166 yX0_moveUnits ∈ jj_G := jj_t5 (List.mem_of_getElem? (i := 123) (by decide +kernel)) rfl
theorem jw_7d091de86e : Cond.code yX0_moveUnits cX0_moveUnits 12 none ∈ jj_G := jj_t5 (List.mem_of_getElem? (i := 126) (by decide +kernel)) rfl
theorem jw_3aa8fe2f70 : Cond.methodLink RX0 150 yJ9_min_f86c9 ∈ jj_G := jj_t5 (List.mem_of_getElem? (i := 127) (by decide +kernel)) rfl
theorem jw_96d0fce99e : Cond.methodLink RX0 153 yX0_splitLot ∈ jj_G := jj_t5 (List.mem_of_getElem? (i := 128) (by decide +kernel)) rfl
theorem jw_dd97004619 : Cond.code yX0_splitLot cX0_splitLot 8 none ∈ jj_G := jj_t5 (List.mem_of_getElem? (i := 131) (by decide +kernel)) rfl
theorem jw_5f3a460d17 : Cond.methodLink RX0 157 yX0_addLot ∈ jj_G := jj_t5 (List.mem_of_getElem? (i := 132) (by decide +kernel)) rfl
theorem jw_9a3deeca5f : Cond.instanceMethod yX0_splitLot ∈ jj_G := jj_t5 (List.mem_of_getElem? (i := 130) (by decide +kernel)) rfl
theorem jw_ba2a371f49 : Cond.selects RX0 yX0_splitLot yX0_splitLot ∈ jj_G := jj_pv (q := (yX0_splitLot, 14)) (by decide +kernel)
theorem jn_X0_splitLot : jj_N yX0_splitLot 3 := by unfold jj_N; decide +kernel
theorem jw_d2fd2d623d : Cond.instanceMethod yX0_moveUnits ∈ jj_G := jj_t5 (List.mem_of_getElem? (i := 124) (by decide +kernel)) rfl
theorem jw_ca66900665 : Cond.selects RX0 yX0_moveUnits yX0_moveUnits ∈ jj_G := jj_t5 (List.mem_of_getElem? (i := 125) (by decide +kernel)) rfl
theorem jn_X0_moveUnits : jj_N yX0_moveUnits 3 := by unfold jj_N; decide +kernel
theorem jw_696d1435d3 : Cond.methodLink RX10 170 yX0_unitsHeldBy ∈ jj_G := jj_t5 (List.mem_of_getElem? (i := 133) (by decide +kernel)) rfl
theorem jw_4e9301adc5 : Cond.methodLink RX10 135 yX0_removeRequest ∈ jj_G := jj_t5 (List.mem_of_getElem? (i := 85) (by decide +kernel)) rfl
theorem jw_c84efe0986 : Cond.code yX0_removeRequest cX0_removeRequest 2 none ∈ jj_G := jj_t5 (List.mem_of_getElem? (i := 88) (by decide +kernel)) rfl
theorem jw_0b1f3c3696 : Cond.methodLink RX0 174 yX0_dropDoneRequests ∈ jj_G := jj_t5 (List.mem_of_getElem? (i := 89) (by decide +kernel)) rfl
theorem jw_2b30a1cb9a : Cond.instanceMethod yX0_removeRequest ∈ jj_G := jj_t5 (List.mem_of_getElem? (i := 86) (by decide +kernel)) rfl
theorem jw_6f6660d855 : Cond.selects RX0 yX0_removeRequest yX0_removeRequest ∈ jj_G := jj_t5 (List.mem_of_getElem? (i := 87) (by decide +kernel)) rfl
theorem jn_X0_removeRequest : jj_N yX0_removeRequest 1 := by unfold jj_N; decide +kernel
theorem jw_63419c06a6 : Cond.fieldLink RX10 344 "SeriesFund$Request" "redeemed" "J" ∈ jj_G := jj_t1 (List.mem_of_getElem? (i := 193) (by decide +kernel)) rfl
theorem jw_5efda3794a : Cond.methodLink RX10 76 yX9_takeBuffer ∈ jj_G := jj_t2 (List.mem_of_getElem? (i := 132) (by decide +kernel)) rfl
theorem jw_e4fa8c07c9 : Cond.code yX9_takeBuffer cX9_takeBuffer 1 none ∈ jj_G := jj_t2 (List.mem_of_getElem? (i := 135) (by decide +kernel)) rfl
theorem jw_bc3c1a7c51 : Cond.fieldLink RX9 19 "SeriesFund$Tokens" "length" "I" ∈ jj_G := jj_t1 (List.mem_of_getElem? (i := 44) (by decide +kernel)) rfl
theorem jw_66bda6962a : Cond.fieldLink RX9 25 "SeriesFund$Tokens" "start" "I" ∈ jj_G := jj_t1 (List.mem_of_getElem? (i := 46) (by decide +kernel)) rfl
theorem jw_f99bd0ca2b : Cond.fieldLink RX9 22 "SeriesFund$Tokens" "end" "I" ∈ jj_G := jj_t1 (List.mem_of_getElem? (i := 45) (by decide +kernel)) rfl
theorem jw_bde5c0d1a5 : Cond.fieldLink RX9 28 "SeriesFund$Tokens" "kind" "I" ∈ jj_G := jj_t1 (List.mem_of_getElem? (i := 48) (by decide +kernel)) rfl
theorem jw_30b807515b : Cond.instanceMethod yX9_takeBuffer ∈ jj_G := jj_t2 (List.mem_of_getElem? (i := 133) (by decide +kernel)) rfl
theorem jw_13e4836c11 : Cond.selects RX9 yX9_takeBuffer yX9_takeBuffer ∈ jj_G := jj_t2 (List.mem_of_getElem? (i := 134) (by decide +kernel)) rfl
theorem jn_X9_takeBuffer : jj_N yX9_takeBuffer 0 := by unfold jj_N; decide +kernel
theorem jw_e238725d1c : Cond.laysFinal RX3 "SeriesFund$FundText" "tokens" "LSeriesFund$Tokens;" ∈ jj_G := jj_t2 (List.mem_of_getElem? (i := 146) (by decide +kernel)) rfl
theorem jw_3e21369a28 : Cond.laysFinal RX3 "SeriesFund$FundText" "book" "LSeriesFund$Book;" ∈ jj_G := jj_t2 (List.mem_of_getElem? (i := 148) (by decide +kernel)) rfl
theorem jw_09e99f28e4 : Cond.lays RX3 "SeriesFund$FundText" "code" "I" ∈ jj_G := jj_t2 (List.mem_of_getElem? (i := 150) (by decide +kernel)) rfl
theorem ju_4 : ∀ w ∈ u_ws RX3 TX3 3, w ∈ jj_G := by
  intro w hw
  obtain ⟨k, hk, rfl⟩ := List.mem_map.mp hw
  have hk := List.mem_range.mp hk
  match k, hk with
  | 0, _ => exact jw_e238725d1c
  | 1, _ => exact jw_3e21369a28
  | 2, _ => exact jw_09e99f28e4
  | n + 3, hk => exact absurd hk (by omega)
theorem jk_4 : jj_K 4 RX3 TX3 3 tyX3 := ⟨rfl, ju_4, tyX3_ok, nmX3⟩
theorem jd_4 : ∀ j, j < 3 → defaultValue (tyX3 j) = vp_V [.null, .null, .int 0] j := by
  intro j hj
  match j, hj with
  | 0, _ => rfl
  | 1, _ => rfl
  | 2, _ => rfl
  | n + 3, hj => exact absurd hj (by omega)
theorem jw_0cf788dab0 : Cond.classLink RX10 79 RX3 ∈ jj_G := jj_t2 (List.mem_of_getElem? (i := 136) (by decide +kernel)) rfl
theorem jw_a522655315 : Cond.instantiable RX3 3 ∈ jj_G := jj_t2 (List.mem_of_getElem? (i := 137) (by decide +kernel)) rfl
theorem jw_9d546d0b6f : Cond.initialized RX3 ∈ jj_G := jj_t1 (List.mem_of_getElem? (i := 15) (by decide +kernel)) rfl
theorem jw_9b9964c510 : Cond.methodLink RX3 3 objectInit ∈ jj_G := jj_t2 (List.mem_of_getElem? (i := 141) (by decide +kernel)) rfl
theorem jw_449f795db0 : Cond.instanceMethod objectInit ∈ jj_G := jj_t1 (List.mem_of_getElem? (i := 33) (by decide +kernel)) rfl
theorem jw_679af8422a : Cond.code objectInit ⟨#[0xb1]⟩ 1 none ∈ jj_G := jj_t1 (List.mem_of_getElem? (i := 34) (by decide +kernel)) rfl
theorem jw_c9663815d9 : Cond.fieldLink RX3 9 "SeriesFund$FundText" "code" "I" ∈ jj_G := jj_t2 (List.mem_of_getElem? (i := 144) (by decide +kernel)) rfl
theorem jw_70cd29f103 : Cond.fieldLink RX3 15 "SeriesFund$FundText" "tokens" "LSeriesFund$Tokens;" ∈ jj_G := jj_t2 (List.mem_of_getElem? (i := 142) (by decide +kernel)) rfl
theorem jw_bdf52ddf93 : Cond.fieldLink RX3 19 "SeriesFund$FundText" "book" "LSeriesFund$Book;" ∈ jj_G := jj_t2 (List.mem_of_getElem? (i := 143) (by decide +kernel)) rfl
theorem jw_815a5635de : Cond.code yX3_init cX3_init 3 none ∈ jj_G := jj_t2 (List.mem_of_getElem? (i := 140) (by decide +kernel)) rfl
theorem jw_d39ed87e8d : Cond.methodLink RX10 81 yX3_init ∈ jj_G := jj_t2 (List.mem_of_getElem? (i := 138) (by decide +kernel)) rfl
theorem jw_a345980fa4 : Cond.instanceMethod yX3_init ∈ jj_G := jj_t2 (List.mem_of_getElem? (i := 139) (by decide +kernel)) rfl
theorem jn_X3_init : jj_N yX3_init 2 := by unfold jj_N; decide +kernel
theorem jw_3aa8a9688c : Cond.methodLink RX10 84 yX3_readAll ∈ jj_G := jj_t2 (List.mem_of_getElem? (i := 153) (by decide +kernel)) rfl
theorem jw_48ef172467 : Cond.code yX3_readAll cX3_readAll 1 (some .boolean) ∈ jj_G := jj_t2 (List.mem_of_getElem? (i := 156) (by decide +kernel)) rfl
theorem jw_70774646a3 : Cond.methodLink RX3 23 yX0_empty ∈ jj_G := jj_t2 (List.mem_of_getElem? (i := 157) (by decide +kernel)) rfl
theorem jw_3b60f34034 : Cond.code yX0_empty cX0_empty 2 none ∈ jj_G := jj_t2 (List.mem_of_getElem? (i := 160) (by decide +kernel)) rfl
theorem jw_1f85beb0ee : Cond.instanceMethod yX0_empty ∈ jj_G := jj_t2 (List.mem_of_getElem? (i := 158) (by decide +kernel)) rfl
theorem jw_766e918565 : Cond.selects RX0 yX0_empty yX0_empty ∈ jj_G := jj_t2 (List.mem_of_getElem? (i := 159) (by decide +kernel)) rfl
theorem jn_X0_empty : jj_N yX0_empty 0 := by unfold jj_N; decide +kernel
theorem jw_326a050c34 : Cond.methodLink RX3 28 yX3_readFund ∈ jj_G := jj_t2 (List.mem_of_getElem? (i := 161) (by decide +kernel)) rfl
theorem jw_1a1c8b71c4 : Cond.code yX3_readFund cX3_readFund 1 (some .boolean) ∈ jj_G := jj_t2 (List.mem_of_getElem? (i := 164) (by decide +kernel)) rfl
theorem jw_35f0a2113e : Cond.methodLink RX3 40 yX3_readWord ∈ jj_G := jj_t2 (List.mem_of_getElem? (i := 166) (by decide +kernel)) rfl
theorem jw_e40f0ddd13 : Cond.code yX3_readWord cX3_readWord 2 (some .boolean) ∈ jj_G := jj_t2 (List.mem_of_getElem? (i := 169) (by decide +kernel)) rfl
theorem jw_97c023d194 : Cond.methodLink RX3 68 yX9_advance ∈ jj_G := jj_t2 (List.mem_of_getElem? (i := 170) (by decide +kernel)) rfl
theorem jw_0d4db63612 : Cond.code yX9_advance cX9_advance 1 none ∈ jj_G := jj_t2 (List.mem_of_getElem? (i := 173) (by decide +kernel)) rfl
theorem jw_5d32b2c455 : Cond.methodLink RX9 34 yX9_isLetter ∈ jj_G := jj_t2 (List.mem_of_getElem? (i := 174) (by decide +kernel)) rfl
theorem jw_9e97b9dadb : Cond.code yX9_isLetter cX9_isLetter 2 (some .boolean) ∈ jj_G := jj_t2 (List.mem_of_getElem? (i := 177) (by decide +kernel)) rfl
theorem jw_c77b9e5a65 : Cond.instanceMethod yX9_isLetter ∈ jj_G := jj_t2 (List.mem_of_getElem? (i := 176) (by decide +kernel)) rfl
theorem jw_cdb619e1fe : Cond.selects RX9 yX9_isLetter yX9_isLetter ∈ jj_G := jj_pv (q := (yX9_isLetter, 7)) (by decide +kernel)
theorem jn_X9_isLetter : jj_N yX9_isLetter 1 := by unfold jj_N; decide +kernel
theorem jw_9f660503f9 : Cond.methodLink RX9 38 yX9_isDigit ∈ jj_G := jj_t2 (List.mem_of_getElem? (i := 178) (by decide +kernel)) rfl
theorem jw_c365050a25 : Cond.code yX9_isDigit cX9_isDigit 2 (some .boolean) ∈ jj_G := jj_t2 (List.mem_of_getElem? (i := 181) (by decide +kernel)) rfl
theorem jw_c0c6c0e094 : Cond.instanceMethod yX9_isDigit ∈ jj_G := jj_t2 (List.mem_of_getElem? (i := 180) (by decide +kernel)) rfl
theorem jw_7656ac4378 : Cond.selects RX9 yX9_isDigit yX9_isDigit ∈ jj_G := jj_pv (q := (yX9_isDigit, 7)) (by decide +kernel)
theorem jn_X9_isDigit : jj_N yX9_isDigit 1 := by unfold jj_N; decide +kernel
theorem jw_f32ea1979e : Cond.fieldLink RX9 31 "SeriesFund$Tokens" "value" "I" ∈ jj_G := jj_t1 (List.mem_of_getElem? (i := 52) (by decide +kernel)) rfl
theorem jw_37f6ee43e0 : Cond.instanceMethod yX9_advance ∈ jj_G := jj_t2 (List.mem_of_getElem? (i := 171) (by decide +kernel)) rfl
theorem jw_46baf1fc7b : Cond.selects RX9 yX9_advance yX9_advance ∈ jj_G := jj_t2 (List.mem_of_getElem? (i := 172) (by decide +kernel)) rfl
theorem jn_X9_advance : jj_N yX9_advance 0 := by unfold jj_N; decide +kernel
theorem jw_b0fe72c6f4 : Cond.methodLink RX3 73 yX9_isWord ∈ jj_G := jj_t2 (List.mem_of_getElem? (i := 182) (by decide +kernel)) rfl
theorem jw_ce1c1f12e9 : Cond.code yX9_isWord cX9_isWord 3 (some .boolean) ∈ jj_G := jj_t2 (List.mem_of_getElem? (i := 185) (by decide +kernel)) rfl
theorem jw_f27063fded : Cond.methodLink RX9 41 yJ0_length_8abf5 ∈ jj_G := jj_t2 (List.mem_of_getElem? (i := 186) (by decide +kernel)) rfl
theorem jw_bbc7045666 : Cond.code yJ0_length_8abf5 cJ0_length_8abf5 1 (some .int) ∈ jj_G := jj_t2 (List.mem_of_getElem? (i := 189) (by decide +kernel)) rfl
theorem jw_4ea6285965 : Cond.initialized RJ0 ∈ jj_G := jj_t1 (List.mem_of_getElem? (i := 16) (by decide +kernel)) rfl
theorem jw_90a506b1c3 : Cond.fieldLink RJ0 9 "java/lang/String" "value" "[B" ∈ jj_G := jj_t9 (List.mem_of_getElem? (i := 78) (by decide +kernel)) rfl
theorem jw_478bb18c33 : Cond.fieldLink RJ0 38 "java/lang/String" "COMPACT_STRINGS" "Z" ∈ jj_G := jj_t2 (List.mem_of_getElem? (i := 194) (by decide +kernel)) rfl
theorem jw_7816d6e515 : Cond.fieldLink RJ0 15 "java/lang/String" "coder" "B" ∈ jj_G := jj_t9 (List.mem_of_getElem? (i := 79) (by decide +kernel)) rfl
theorem jw_084b973d83 : Cond.code yJ0_coder_7d493 cJ0_coder_7d493 1 (some .byte) ∈ jj_G := jj_t2 (List.mem_of_getElem? (i := 193) (by decide +kernel)) rfl
theorem jw_f46b3464d2 : Cond.methodLink RJ0 335 yJ0_coder_7d493 ∈ jj_G := jj_t2 (List.mem_of_getElem? (i := 190) (by decide +kernel)) rfl
theorem jw_35edddbded : Cond.instanceMethod yJ0_coder_7d493 ∈ jj_G := jj_t2 (List.mem_of_getElem? (i := 191) (by decide +kernel)) rfl
theorem jw_31f76f5b78 : Cond.selects RJ0 yJ0_coder_7d493 yJ0_coder_7d493 ∈ jj_G := jj_t2 (List.mem_of_getElem? (i := 192) (by decide +kernel)) rfl
theorem jn_J0_coder_7d493 : jj_N yJ0_coder_7d493 0 := by unfold jj_N; decide +kernel
theorem jw_b1ce304435 : Cond.instanceMethod yJ0_length_8abf5 ∈ jj_G := jj_t2 (List.mem_of_getElem? (i := 187) (by decide +kernel)) rfl
theorem jw_d08f03a22e : Cond.selects RJ0 yJ0_length_8abf5 yJ0_length_8abf5 ∈ jj_G := jj_t2 (List.mem_of_getElem? (i := 188) (by decide +kernel)) rfl
theorem jn_J0_length_8abf5 : jj_N yJ0_length_8abf5 0 := by unfold jj_N; decide +kernel
theorem jw_076e8de8e0 : Cond.methodLink RX9 46 yJ0_charAt_5068e ∈ jj_G := jj_t2 (List.mem_of_getElem? (i := 196) (by decide +kernel)) rfl
theorem jw_391c0f56bd : Cond.code yJ0_charAt_5068e cJ0_charAt_5068e 2 (some .char) ∈ jj_G := jj_t2 (List.mem_of_getElem? (i := 199) (by decide +kernel)) rfl
theorem jw_1aa7753999 : Cond.code yJ0_isLatin1_aae02 cJ0_isLatin1_aae02 1 (some .boolean) ∈ jj_G := jj_t2 (List.mem_of_getElem? (i := 203) (by decide +kernel)) rfl
theorem jw_5ca960aa2e : Cond.methodLink RJ0 492 yJ0_isLatin1_aae02 ∈ jj_G := jj_t2 (List.mem_of_getElem? (i := 200) (by decide +kernel)) rfl
theorem jw_b7ba7c03ae : Cond.instanceMethod yJ0_isLatin1_aae02 ∈ jj_G := jj_t2 (List.mem_of_getElem? (i := 201) (by decide +kernel)) rfl
theorem jw_c4fe6f1e08 : Cond.selects RJ0 yJ0_isLatin1_aae02 yJ0_isLatin1_aae02 ∈ jj_G := jj_t2 (List.mem_of_getElem? (i := 202) (by decide +kernel)) rfl
theorem jn_J0_isLatin1_aae02 : jj_N yJ0_isLatin1_aae02 0 := by unfold jj_N; decide +kernel
theorem jw_040150fc39 : Cond.fieldLink RJ0 1053 "jdk/internal/util/Preconditions" "SIOOBE_FORMATTER" "Ljava/util/function/BiFunction;" ∈ jj_G := jj_t2 (List.mem_of_getElem? (i := 210) (by decide +kernel)) rfl
theorem jw_da9869a695 : Cond.code yJ3_checkIndex_8e157 cJ3_checkIndex_8e157 3 (some .int) ∈ jj_G := jj_t2 (List.mem_of_getElem? (i := 214) (by decide +kernel)) rfl
theorem jw_a7a8b385a1 : Cond.methodLink RJ0 1059 yJ3_checkIndex_8e157 ∈ jj_G := jj_t2 (List.mem_of_getElem? (i := 212) (by decide +kernel)) rfl
theorem jw_2c7dffdd00 : Cond.initialized RJ3 ∈ jj_G := jj_t1 (List.mem_of_getElem? (i := 18) (by decide +kernel)) rfl
theorem jw_8d35bed6b0 : Cond.static yJ3_checkIndex_8e157 ∈ jj_G := jj_t2 (List.mem_of_getElem? (i := 213) (by decide +kernel)) rfl
theorem jn_J3_checkIndex_8e157 : jj_N yJ3_checkIndex_8e157 3 := by unfold jj_N; decide +kernel
theorem jw_73f64df4e3 : Cond.code yJ0_checkIndex_df160 cJ0_checkIndex_df160 2 none ∈ jj_G := jj_t2 (List.mem_of_getElem? (i := 209) (by decide +kernel)) rfl
theorem jw_763fabfbf2 : Cond.methodLink RJ1 9 yJ0_checkIndex_df160 ∈ jj_G := jj_t2 (List.mem_of_getElem? (i := 207) (by decide +kernel)) rfl
theorem jw_9aa540e9dd : Cond.static yJ0_checkIndex_df160 ∈ jj_G := jj_t2 (List.mem_of_getElem? (i := 208) (by decide +kernel)) rfl
theorem jn_J0_checkIndex_df160 : jj_N yJ0_checkIndex_df160 2 := by unfold jj_N; decide +kernel
theorem jw_6996a9eac3 : Cond.code yJ1_charAt_3b067 cJ1_charAt_3b067 2 (some .char) ∈ jj_G := jj_t2 (List.mem_of_getElem? (i := 206) (by decide +kernel)) rfl
theorem jw_7e2463d496 : Cond.methodLink RJ0 495 yJ1_charAt_3b067 ∈ jj_G := jj_t2 (List.mem_of_getElem? (i := 204) (by decide +kernel)) rfl
theorem jw_2a3a2ce6ce : Cond.initialized RJ1 ∈ jj_G := jj_t1 (List.mem_of_getElem? (i := 17) (by decide +kernel)) rfl
theorem jw_530d7ac64c : Cond.static yJ1_charAt_3b067 ∈ jj_G := jj_t2 (List.mem_of_getElem? (i := 205) (by decide +kernel)) rfl
theorem jn_J1_charAt_3b067 : jj_N yJ1_charAt_3b067 2 := by unfold jj_N; decide +kernel
theorem jw_acb9174fef : Cond.instanceMethod yJ0_charAt_5068e ∈ jj_G := jj_t2 (List.mem_of_getElem? (i := 197) (by decide +kernel)) rfl
theorem jw_675efe837b : Cond.selects RJ0 yJ0_charAt_5068e yJ0_charAt_5068e ∈ jj_G := jj_t2 (List.mem_of_getElem? (i := 198) (by decide +kernel)) rfl
theorem jn_J0_charAt_5068e : jj_N yJ0_charAt_5068e 1 := by unfold jj_N; decide +kernel
theorem jw_5e9522a00c : Cond.instanceMethod yX9_isWord ∈ jj_G := jj_t2 (List.mem_of_getElem? (i := 183) (by decide +kernel)) rfl
theorem jw_73cf9edcb7 : Cond.selects RX9 yX9_isWord yX9_isWord ∈ jj_G := jj_t2 (List.mem_of_getElem? (i := 184) (by decide +kernel)) rfl
theorem jn_X9_isWord : jj_N yX9_isWord 1 := by unfold jj_N; decide +kernel
theorem jw_713f4d2af1 : Cond.methodLink RX3 81 yX3_accept ∈ jj_G := jj_t2 (List.mem_of_getElem? (i := 234) (by decide +kernel)) rfl
theorem jw_0001e2e84f : Cond.code yX3_accept cX3_accept 3 (some .boolean) ∈ jj_G := jj_t2 (List.mem_of_getElem? (i := 237) (by decide +kernel)) rfl
theorem jw_b3e457240a : Cond.instanceMethod yX3_accept ∈ jj_G := jj_t2 (List.mem_of_getElem? (i := 236) (by decide +kernel)) rfl
theorem jw_58c48ce796 : Cond.selects RX3 yX3_accept yX3_accept ∈ jj_G := jj_pv (q := (yX3_accept, 3)) (by decide +kernel)
theorem jn_X3_accept : jj_N yX3_accept 2 := by unfold jj_N; decide +kernel
theorem jw_2bd777f4eb : Cond.instanceMethod yX3_readWord ∈ jj_G := jj_t2 (List.mem_of_getElem? (i := 168) (by decide +kernel)) rfl
theorem jw_3ef85e294d : Cond.selects RX3 yX3_readWord yX3_readWord ∈ jj_G := jj_pv (q := (yX3_readWord, 3)) (by decide +kernel)
theorem jn_X3_readWord : jj_N yX3_readWord 1 := by unfold jj_N; decide +kernel
theorem jw_929d8e5787 : Cond.methodLink RX3 44 yX3_readMethod ∈ jj_G := jj_t2 (List.mem_of_getElem? (i := 238) (by decide +kernel)) rfl
theorem jw_fe37aa9023 : Cond.code yX3_readMethod cX3_readMethod 1 (some .boolean) ∈ jj_G := jj_t3 (List.mem_of_getElem? (i := 1) (by decide +kernel)) rfl
theorem jw_f222fdc0b2 : Cond.fieldLink RX3 76 "SeriesFund$Book" "method" "I" ∈ jj_G := jj_t1 (List.mem_of_getElem? (i := 210) (by decide +kernel)) rfl
theorem jw_a38d2932de : Cond.instanceMethod yX3_readMethod ∈ jj_G := jj_t3 (List.mem_of_getElem? (i := 0) (by decide +kernel)) rfl
theorem jw_290a4b4fac : Cond.selects RX3 yX3_readMethod yX3_readMethod ∈ jj_G := jj_pv (q := (yX3_readMethod, 3)) (by decide +kernel)
theorem jn_X3_readMethod : jj_N yX3_readMethod 0 := by unfold jj_N; decide +kernel
theorem jw_012f0d7bd3 : Cond.methodLink RX3 47 yX3_readNumber ∈ jj_G := jj_t3 (List.mem_of_getElem? (i := 4) (by decide +kernel)) rfl
theorem jw_ad178c7ce3 : Cond.code yX3_readNumber cX3_readNumber 3 (some .boolean) ∈ jj_G := jj_t3 (List.mem_of_getElem? (i := 7) (by decide +kernel)) rfl
theorem jw_601d0e39ae : Cond.fieldLink RX3 89 "SeriesFund$Tokens" "kind" "I" ∈ jj_G := jj_t1 (List.mem_of_getElem? (i := 50) (by decide +kernel)) rfl
theorem jw_c96d139a1d : Cond.fieldLink RX3 51 "SeriesFund$Tokens" "value" "I" ∈ jj_G := jj_t1 (List.mem_of_getElem? (i := 54) (by decide +kernel)) rfl
theorem jw_3c1e5a080b : Cond.instanceMethod yX3_readNumber ∈ jj_G := jj_t3 (List.mem_of_getElem? (i := 6) (by decide +kernel)) rfl
theorem jw_1f143bff8b : Cond.selects RX3 yX3_readNumber yX3_readNumber ∈ jj_G := jj_pv (q := (yX3_readNumber, 3)) (by decide +kernel)
theorem jn_X3_readNumber : jj_N yX3_readNumber 2 := by unfold jj_N; decide +kernel
theorem jw_9d51789d75 : Cond.fieldLink RX3 56 "SeriesFund$Book" "managementRate" "I" ∈ jj_G := jj_t1 (List.mem_of_getElem? (i := 215) (by decide +kernel)) rfl
theorem jw_fb3bcf590b : Cond.fieldLink RX3 59 "SeriesFund$Book" "performanceFee" "I" ∈ jj_G := jj_t1 (List.mem_of_getElem? (i := 220) (by decide +kernel)) rfl
theorem jw_3fe4d4aa21 : Cond.fieldLink RX3 62 "SeriesFund$Book" "gate" "I" ∈ jj_G := jj_t1 (List.mem_of_getElem? (i := 225) (by decide +kernel)) rfl
theorem jw_3b321ba845 : Cond.methodLink RX3 65 yX3_readSemicolon ∈ jj_G := jj_t3 (List.mem_of_getElem? (i := 8) (by decide +kernel)) rfl
theorem jw_469c7bc0ab : Cond.code yX3_readSemicolon cX3_readSemicolon 1 (some .boolean) ∈ jj_G := jj_t3 (List.mem_of_getElem? (i := 11) (by decide +kernel)) rfl
theorem jw_25d4a051a9 : Cond.instanceMethod yX3_readSemicolon ∈ jj_G := jj_t3 (List.mem_of_getElem? (i := 10) (by decide +kernel)) rfl
theorem jw_00e33b0681 : Cond.selects RX3 yX3_readSemicolon yX3_readSemicolon ∈ jj_G := jj_pv (q := (yX3_readSemicolon, 3)) (by decide +kernel)
theorem jn_X3_readSemicolon : jj_N yX3_readSemicolon 0 := by unfold jj_N; decide +kernel
theorem jw_0ff5f51df1 : Cond.instanceMethod yX3_readFund ∈ jj_G := jj_t2 (List.mem_of_getElem? (i := 163) (by decide +kernel)) rfl
theorem jw_d507058dac : Cond.selects RX3 yX3_readFund yX3_readFund ∈ jj_G := jj_pv (q := (yX3_readFund, 3)) (by decide +kernel)
theorem jn_X3_readFund : jj_N yX3_readFund 0 := by unfold jj_N; decide +kernel
theorem jw_297b72aa01 : Cond.methodLink RX3 32 yX3_readInvestors ∈ jj_G := jj_t3 (List.mem_of_getElem? (i := 12) (by decide +kernel)) rfl
theorem jw_a68ab282d7 : Cond.code yX3_readInvestors cX3_readInvestors 1 (some .boolean) ∈ jj_G := jj_t3 (List.mem_of_getElem? (i := 15) (by decide +kernel)) rfl
theorem jw_b7c31a179b : Cond.fieldLink RX3 87 "SeriesFund$Book" "investors" "I" ∈ jj_G := jj_t1 (List.mem_of_getElem? (i := 207) (by decide +kernel)) rfl
theorem jw_aa69f86581 : Cond.instanceMethod yX3_readInvestors ∈ jj_G := jj_t3 (List.mem_of_getElem? (i := 14) (by decide +kernel)) rfl
theorem jw_7bc51c19f8 : Cond.selects RX3 yX3_readInvestors yX3_readInvestors ∈ jj_G := jj_pv (q := (yX3_readInvestors, 3)) (by decide +kernel)
theorem jn_X3_readInvestors : jj_N yX3_readInvestors 0 := by unfold jj_N; decide +kernel
theorem jw_0d491b8015 : Cond.methodLink RX3 35 yX3_readSubscriptions ∈ jj_G := jj_t3 (List.mem_of_getElem? (i := 17) (by decide +kernel)) rfl
theorem jw_66b02ab29d : Cond.code yX3_readSubscriptions cX3_readSubscriptions 2 (some .boolean) ∈ jj_G := jj_t3 (List.mem_of_getElem? (i := 20) (by decide +kernel)) rfl
theorem jw_b50e5c10ea : Cond.methodLink RX3 94 yX3_readSubscription ∈ jj_G := jj_t3 (List.mem_of_getElem? (i := 22) (by decide +kernel)) rfl
theorem jw_0cc88cc191 : Cond.code yX3_readSubscription cX3_readSubscription 2 (some .boolean) ∈ jj_G := jj_t3 (List.mem_of_getElem? (i := 25) (by decide +kernel)) rfl
theorem jw_fca8450242 : Cond.constant RX3 97 (9999999) ∈ jj_G := jj_t3 (List.mem_of_getElem? (i := 26) (by decide +kernel)) rfl
theorem jw_1ad2c848e8 : Cond.methodLink RX3 98 yX0_addRequest ∈ jj_G := jj_t3 (List.mem_of_getElem? (i := 27) (by decide +kernel)) rfl
theorem jw_23105775d0 : Cond.instanceMethod yX3_readSubscription ∈ jj_G := jj_t3 (List.mem_of_getElem? (i := 24) (by decide +kernel)) rfl
theorem jw_16355fb5ab : Cond.selects RX3 yX3_readSubscription yX3_readSubscription ∈ jj_G := jj_pv (q := (yX3_readSubscription, 3)) (by decide +kernel)
theorem jn_X3_readSubscription : jj_N yX3_readSubscription 0 := by unfold jj_N; decide +kernel
theorem jw_da6629b5a3 : Cond.instanceMethod yX3_readSubscriptions ∈ jj_G := jj_t3 (List.mem_of_getElem? (i := 19) (by decide +kernel)) rfl
theorem jw_c7b5efd6ac : Cond.selects RX3 yX3_readSubscriptions yX3_readSubscriptions ∈ jj_G := jj_pv (q := (yX3_readSubscriptions, 3)) (by decide +kernel)
theorem jn_X3_readSubscriptions : jj_N yX3_readSubscriptions 0 := by unfold jj_N; decide +kernel
theorem jw_7a91a56686 : Cond.instanceMethod yX3_readAll ∈ jj_G := jj_t2 (List.mem_of_getElem? (i := 154) (by decide +kernel)) rfl
theorem jw_1f44e8e425 : Cond.selects RX3 yX3_readAll yX3_readAll ∈ jj_G := jj_t2 (List.mem_of_getElem? (i := 155) (by decide +kernel)) rfl
theorem jn_X3_readAll : jj_N yX3_readAll 0 := by unfold jj_N; decide +kernel
theorem jw_14f27d9163 : Cond.fieldLink RX10 88 "SeriesFund$FundText" "code" "I" ∈ jj_G := jj_t2 (List.mem_of_getElem? (i := 145) (by decide +kernel)) rfl
theorem jw_1eeb46a090 : Cond.fieldLink RX10 16 "SeriesFund" "parseCode" "I" ∈ jj_G := jj_t2 (List.mem_of_getElem? (i := 98) (by decide +kernel)) rfl
theorem jw_26ab74fd32 : Cond.fieldLink RX10 91 "SeriesFund$Tokens" "start" "I" ∈ jj_G := jj_t1 (List.mem_of_getElem? (i := 47) (by decide +kernel)) rfl
theorem jw_e0c9868424 : Cond.fieldLink RX10 20 "SeriesFund" "parsePosition" "I" ∈ jj_G := jj_t2 (List.mem_of_getElem? (i := 99) (by decide +kernel)) rfl
theorem jw_3c4052a5f5 : Cond.methodLink RX10 97 yX1_holdDealing ∈ jj_G := jj_t3 (List.mem_of_getElem? (i := 34) (by decide +kernel)) rfl
theorem jw_cb08e29005 : Cond.code yX1_holdDealing cX1_holdDealing 2 (some .int) ∈ jj_G := jj_t3 (List.mem_of_getElem? (i := 37) (by decide +kernel)) rfl
theorem jw_ccf4bd9d58 : Cond.methodLink RX1 34 yX1_baseOfRedemptions ∈ jj_G := jj_t3 (List.mem_of_getElem? (i := 38) (by decide +kernel)) rfl
theorem jw_a916ee95e5 : Cond.methodLink RX1 38 yX1_redeemWaiting ∈ jj_G := jj_t3 (List.mem_of_getElem? (i := 85) (by decide +kernel)) rfl
theorem jw_e3ece2457f : Cond.methodLink RX1 42 yX1_subscribeWaiting ∈ jj_G := jj_t3 (List.mem_of_getElem? (i := 119) (by decide +kernel)) rfl
theorem jw_aaa4b6a0d2 : Cond.methodLink RX1 46 yX0_dropDoneRequests ∈ jj_G := jj_t3 (List.mem_of_getElem? (i := 142) (by decide +kernel)) rfl
theorem jw_9492be7750 : Cond.instanceMethod yX1_holdDealing ∈ jj_G := jj_t3 (List.mem_of_getElem? (i := 35) (by decide +kernel)) rfl
theorem jw_6c693009b5 : Cond.selects RX1 yX1_holdDealing yX1_holdDealing ∈ jj_G := jj_t3 (List.mem_of_getElem? (i := 36) (by decide +kernel)) rfl
theorem jn_X1_holdDealing : jj_N yX1_holdDealing 1 := by unfold jj_N; decide +kernel
theorem jw_3731182a18 : Cond.methodLink RX10 155 yX2_settleAll ∈ jj_G := jj_t3 (List.mem_of_getElem? (i := 179) (by decide +kernel)) rfl
theorem jw_b11dd9fe50 : Cond.code yX2_settleAll cX2_settleAll 4 (some .long) ∈ jj_G := jj_t3 (List.mem_of_getElem? (i := 181) (by decide +kernel)) rfl
theorem jw_86cc566f9c : Cond.methodLink RX2 59 yX0_dropEmptyLots ∈ jj_G := jj_t3 (List.mem_of_getElem? (i := 195) (by decide +kernel)) rfl
theorem jw_eb35652dce : Cond.methodLink RX2 62 yX0_closeEmptySeries ∈ jj_G := jj_t3 (List.mem_of_getElem? (i := 196) (by decide +kernel)) rfl
theorem jw_7a962d04ef : Cond.methodLink RX2 53 yX2_settleSeries ∈ jj_G := jj_t3 (List.mem_of_getElem? (i := 182) (by decide +kernel)) rfl
theorem jw_6694ff0abd : Cond.code yX2_settleSeries cX2_settleSeries 10 none ∈ jj_G := jj_t3 (List.mem_of_getElem? (i := 184) (by decide +kernel)) rfl
theorem jw_6230caeffd : Cond.methodLink RX2 65 yX8_grossPrice ∈ jj_G := jj_t3 (List.mem_of_getElem? (i := 185) (by decide +kernel)) rfl
theorem jw_6a66993f6c : Cond.fieldLink RX2 69 "SeriesFund$Book" "performanceFee" "I" ∈ jj_G := jj_t1 (List.mem_of_getElem? (i := 221) (by decide +kernel)) rfl
theorem jw_0a56017595 : Cond.methodLink RX2 72 yX8_accruedFee ∈ jj_G := jj_t3 (List.mem_of_getElem? (i := 186) (by decide +kernel)) rfl
theorem jw_0a65dafd43 : Cond.fieldLink RX2 75 "SeriesFund$Book" "lotCount" "I" ∈ jj_G := jj_t2 (List.mem_of_getElem? (i := 0) (by decide +kernel)) rfl
theorem jw_841c5f25b9 : Cond.fieldLink RX2 78 "SeriesFund$Book" "lots" "[LSeriesFund$Lot;" ∈ jj_G := jj_t2 (List.mem_of_getElem? (i := 16) (by decide +kernel)) rfl
theorem jw_65e19a7e21 : Cond.fieldLink RX2 82 "SeriesFund$Lot" "series" "I" ∈ jj_G := jj_t1 (List.mem_of_getElem? (i := 137) (by decide +kernel)) rfl
theorem jw_2d4d10d910 : Cond.fieldLink RX2 86 "SeriesFund$Series" "number" "I" ∈ jj_G := jj_t1 (List.mem_of_getElem? (i := 92) (by decide +kernel)) rfl
theorem jw_d1d9a7ddd0 : Cond.fieldLink RX2 89 "SeriesFund$Book" "method" "I" ∈ jj_G := jj_t1 (List.mem_of_getElem? (i := 211) (by decide +kernel)) rfl
theorem jw_8ebffe18a9 : Cond.fieldLink RX2 99 "SeriesFund$Lot" "entryPrice" "J" ∈ jj_G := jj_t1 (List.mem_of_getElem? (i := 148) (by decide +kernel)) rfl
theorem jw_5d4c99f47d : Cond.fieldLink RX2 102 "SeriesFund$Lot" "credit" "J" ∈ jj_G := jj_t1 (List.mem_of_getElem? (i := 153) (by decide +kernel)) rfl
theorem jw_5d382c0351 : Cond.methodLink RX2 92 yX2_giveBack ∈ jj_G := jj_t3 (List.mem_of_getElem? (i := 187) (by decide +kernel)) rfl
theorem jw_0fb41ea103 : Cond.code yX2_giveBack cX2_giveBack 13 none ∈ jj_G := jj_t3 (List.mem_of_getElem? (i := 189) (by decide +kernel)) rfl
theorem jw_bb7ee2f491 : Cond.fieldLink RX2 105 "SeriesFund$Series" "mark" "J" ∈ jj_G := jj_t1 (List.mem_of_getElem? (i := 109) (by decide +kernel)) rfl
theorem jw_6f3bb354f8 : Cond.methodLink RX2 108 yJ9_min_f86c9 ∈ jj_G := jj_t3 (List.mem_of_getElem? (i := 190) (by decide +kernel)) rfl
theorem jw_a038b4bca1 : Cond.fieldLink RX2 114 "SeriesFund$Lot" "units" "J" ∈ jj_G := jj_t1 (List.mem_of_getElem? (i := 145) (by decide +kernel)) rfl
theorem jw_abb7017335 : Cond.fieldLink RX2 117 "SeriesFund$Series" "units" "J" ∈ jj_G := jj_t1 (List.mem_of_getElem? (i := 104) (by decide +kernel)) rfl
theorem jw_86ab3ee099 : Cond.static yX2_giveBack ∈ jj_G := jj_t3 (List.mem_of_getElem? (i := 188) (by decide +kernel)) rfl
theorem jn_X2_giveBack : jj_N yX2_giveBack 5 := by unfold jj_N; decide +kernel
theorem jw_fc900e64a6 : Cond.methodLink RX2 96 yX2_takeDue ∈ jj_G := jj_t3 (List.mem_of_getElem? (i := 191) (by decide +kernel)) rfl
theorem jw_ba54d233d6 : Cond.code yX2_takeDue cX2_takeDue 13 none ∈ jj_G := jj_t3 (List.mem_of_getElem? (i := 193) (by decide +kernel)) rfl
theorem jw_845775b81a : Cond.methodLink RX2 118 yX2_dueOn ∈ jj_G := jj_t3 (List.mem_of_getElem? (i := 194) (by decide +kernel)) rfl
theorem jw_0ed4369b1a : Cond.static yX2_takeDue ∈ jj_G := jj_t3 (List.mem_of_getElem? (i := 192) (by decide +kernel)) rfl
theorem jn_X2_takeDue : jj_N yX2_takeDue 5 := by unfold jj_N; decide +kernel
theorem jw_3b48fa180e : Cond.static yX2_settleSeries ∈ jj_G := jj_t3 (List.mem_of_getElem? (i := 183) (by decide +kernel)) rfl
theorem jn_X2_settleSeries : jj_N yX2_settleSeries 2 := by unfold jj_N; decide +kernel
theorem jw_9fa2db52e4 : Cond.static yX2_settleAll ∈ jj_G := jj_t3 (List.mem_of_getElem? (i := 180) (by decide +kernel)) rfl
theorem jn_X2_settleAll : jj_N yX2_settleAll 1 := by unfold jj_N; decide +kernel
theorem jw_76cf85b7ab : Cond.methodLink RX10 159 yX2_mergeAll ∈ jj_G := jj_t3 (List.mem_of_getElem? (i := 201) (by decide +kernel)) rfl
theorem jw_c94a21e571 : Cond.code yX2_mergeAll cX2_mergeAll 6 (some .int) ∈ jj_G := jj_t3 (List.mem_of_getElem? (i := 203) (by decide +kernel)) rfl
theorem jw_a3cbc7a17d : Cond.methodLink RX2 122 yX2_absorb ∈ jj_G := jj_t3 (List.mem_of_getElem? (i := 204) (by decide +kernel)) rfl
theorem jw_e715389d49 : Cond.code yX2_absorb cX2_absorb 9 none ∈ jj_G := jj_t3 (List.mem_of_getElem? (i := 206) (by decide +kernel)) rfl
theorem jw_b47590c47f : Cond.static yX2_absorb ∈ jj_G := jj_t3 (List.mem_of_getElem? (i := 205) (by decide +kernel)) rfl
theorem jn_X2_absorb : jj_N yX2_absorb 4 := by unfold jj_N; decide +kernel
theorem jw_da92a5531b : Cond.static yX2_mergeAll ∈ jj_G := jj_t3 (List.mem_of_getElem? (i := 202) (by decide +kernel)) rfl
theorem jn_X2_mergeAll : jj_N yX2_mergeAll 1 := by unfold jj_N; decide +kernel
theorem jw_cfcf31a482 : Cond.laysFinal RX7 "SeriesFund$Script" "tokens" "LSeriesFund$Tokens;" ∈ jj_G := jj_t3 (List.mem_of_getElem? (i := 223) (by decide +kernel)) rfl
theorem jw_e0c7c7e7c6 : Cond.laysFinal RX7 "SeriesFund$Script" "book" "LSeriesFund$Book;" ∈ jj_G := jj_t3 (List.mem_of_getElem? (i := 225) (by decide +kernel)) rfl
theorem jw_ca6d59d28b : Cond.laysFinal RX7 "SeriesFund$Script" "desk" "LSeriesFund$Desk;" ∈ jj_G := jj_t3 (List.mem_of_getElem? (i := 227) (by decide +kernel)) rfl
theorem jw_fa7458ecfa : Cond.lays RX7 "SeriesFund$Script" "operation" "I" ∈ jj_G := jj_t3 (List.mem_of_getElem? (i := 229) (by decide +kernel)) rfl
theorem jw_c4899dde45 : Cond.lays RX7 "SeriesFund$Script" "first" "I" ∈ jj_G := jj_t3 (List.mem_of_getElem? (i := 231) (by decide +kernel)) rfl
theorem jw_2809521a15 : Cond.lays RX7 "SeriesFund$Script" "second" "I" ∈ jj_G := jj_t3 (List.mem_of_getElem? (i := 233) (by decide +kernel)) rfl
theorem ju_8 : ∀ w ∈ u_ws RX7 TX7 6, w ∈ jj_G := by
  intro w hw
  obtain ⟨k, hk, rfl⟩ := List.mem_map.mp hw
  have hk := List.mem_range.mp hk
  match k, hk with
  | 0, _ => exact jw_cfcf31a482
  | 1, _ => exact jw_e0c7c7e7c6
  | 2, _ => exact jw_ca6d59d28b
  | 3, _ => exact jw_fa7458ecfa
  | 4, _ => exact jw_c4899dde45
  | 5, _ => exact jw_2809521a15
  | n + 6, hk => exact absurd hk (by omega)
theorem jk_8 : jj_K 8 RX7 TX7 6 tyX7 := ⟨rfl, ju_8, tyX7_ok, nmX7⟩
theorem jd_8 : ∀ j, j < 6 → defaultValue (tyX7 j) = vp_V [.null, .null, .null, .int 0, .int 0, .int 0] j := by
  intro j hj
  match j, hj with
  | 0, _ => rfl
  | 1, _ => rfl
  | 2, _ => rfl
  | 3, _ => rfl
  | 4, _ => rfl
  | 5, _ => rfl
  | n + 6, hj => exact absurd hj (by omega)
theorem jw_dcae64b9ab : Cond.classLink RX10 179 RX7 ∈ jj_G := jj_t3 (List.mem_of_getElem? (i := 211) (by decide +kernel)) rfl
theorem jw_bbdab67eb7 : Cond.instantiable RX7 6 ∈ jj_G := jj_t3 (List.mem_of_getElem? (i := 212) (by decide +kernel)) rfl
theorem jw_ab600d7316 : Cond.initialized RX7 ∈ jj_G := jj_t1 (List.mem_of_getElem? (i := 24) (by decide +kernel)) rfl
theorem jw_b5b2356287 : Cond.methodLink RX7 3 objectInit ∈ jj_G := jj_t3 (List.mem_of_getElem? (i := 216) (by decide +kernel)) rfl
theorem jw_ac85adedeb : Cond.fieldLink RX7 9 "SeriesFund$Script" "operation" "I" ∈ jj_G := jj_t3 (List.mem_of_getElem? (i := 220) (by decide +kernel)) rfl
theorem jw_e240581aab : Cond.fieldLink RX7 15 "SeriesFund$Script" "first" "I" ∈ jj_G := jj_t3 (List.mem_of_getElem? (i := 221) (by decide +kernel)) rfl
theorem jw_e8f1de6a57 : Cond.fieldLink RX7 18 "SeriesFund$Script" "second" "I" ∈ jj_G := jj_t3 (List.mem_of_getElem? (i := 222) (by decide +kernel)) rfl
theorem jw_d4197f0942 : Cond.fieldLink RX7 21 "SeriesFund$Script" "tokens" "LSeriesFund$Tokens;" ∈ jj_G := jj_t3 (List.mem_of_getElem? (i := 217) (by decide +kernel)) rfl
theorem jw_26f46c26b3 : Cond.fieldLink RX7 25 "SeriesFund$Script" "book" "LSeriesFund$Book;" ∈ jj_G := jj_t3 (List.mem_of_getElem? (i := 218) (by decide +kernel)) rfl
theorem jw_0cff950425 : Cond.fieldLink RX7 29 "SeriesFund$Script" "desk" "LSeriesFund$Desk;" ∈ jj_G := jj_t3 (List.mem_of_getElem? (i := 219) (by decide +kernel)) rfl
theorem jw_05338e0863 : Cond.code yX7_init cX7_init 4 none ∈ jj_G := jj_t3 (List.mem_of_getElem? (i := 215) (by decide +kernel)) rfl
theorem jw_88ef7d888c : Cond.methodLink RX10 181 yX7_init ∈ jj_G := jj_t3 (List.mem_of_getElem? (i := 213) (by decide +kernel)) rfl
theorem jw_61caa2835f : Cond.instanceMethod yX7_init ∈ jj_G := jj_t3 (List.mem_of_getElem? (i := 214) (by decide +kernel)) rfl
theorem jn_X7_init : jj_N yX7_init 3 := by unfold jj_N; decide +kernel
theorem jw_e348f4fe02 : Cond.methodLink RX10 184 yX9_advance ∈ jj_G := jj_t3 (List.mem_of_getElem? (i := 236) (by decide +kernel)) rfl
theorem jw_cd2663a0ff : Cond.fieldLink RX10 187 "SeriesFund$Tokens" "kind" "I" ∈ jj_G := jj_t1 (List.mem_of_getElem? (i := 51) (by decide +kernel)) rfl
theorem jw_94b317b503 : Cond.methodLink RX10 190 yX7_readOperation ∈ jj_G := jj_t3 (List.mem_of_getElem? (i := 237) (by decide +kernel)) rfl
theorem jw_da6eced28d : Cond.code yX7_readOperation cX7_readOperation 2 (some .boolean) ∈ jj_G := jj_t4 (List.mem_of_getElem? (i := 0) (by decide +kernel)) rfl
theorem jw_4abd59ac3e : Cond.methodLink RX7 33 yX7_operationOfWord ∈ jj_G := jj_t4 (List.mem_of_getElem? (i := 1) (by decide +kernel)) rfl
theorem jw_2b9411176e : Cond.code yX7_operationOfWord cX7_operationOfWord 1 (some .int) ∈ jj_G := jj_t4 (List.mem_of_getElem? (i := 4) (by decide +kernel)) rfl
theorem jw_2064d16c8e : Cond.methodLink RX7 58 yX9_isWord ∈ jj_G := jj_t4 (List.mem_of_getElem? (i := 6) (by decide +kernel)) rfl
theorem jw_26fd6f139e : Cond.instanceMethod yX7_operationOfWord ∈ jj_G := jj_t4 (List.mem_of_getElem? (i := 3) (by decide +kernel)) rfl
theorem jw_0a655b8643 : Cond.selects RX7 yX7_operationOfWord yX7_operationOfWord ∈ jj_G := jj_pv (q := (yX7_operationOfWord, 6)) (by decide +kernel)
theorem jn_X7_operationOfWord : jj_N yX7_operationOfWord 0 := by unfold jj_N; decide +kernel
theorem jw_4396b966f4 : Cond.methodLink RX7 37 yX7_numbersOf ∈ jj_G := jj_t4 (List.mem_of_getElem? (i := 14) (by decide +kernel)) rfl
theorem jw_02dacf5f33 : Cond.code yX7_numbersOf cX7_numbersOf 1 (some .int) ∈ jj_G := jj_t4 (List.mem_of_getElem? (i := 16) (by decide +kernel)) rfl
theorem jw_bbc0911db6 : Cond.static yX7_numbersOf ∈ jj_G := jj_t4 (List.mem_of_getElem? (i := 15) (by decide +kernel)) rfl
theorem jn_X7_numbersOf : jj_N yX7_numbersOf 1 := by unfold jj_N; decide +kernel
theorem jw_1d4bffcdf0 : Cond.methodLink RX7 41 yX7_readNumber ∈ jj_G := jj_t4 (List.mem_of_getElem? (i := 17) (by decide +kernel)) rfl
theorem jw_1669b6f2a4 : Cond.code yX7_readNumber cX7_readNumber 1 (some .boolean) ∈ jj_G := jj_t4 (List.mem_of_getElem? (i := 20) (by decide +kernel)) rfl
theorem jw_3b7df8d52d : Cond.methodLink RX7 50 yX9_advance ∈ jj_G := jj_t4 (List.mem_of_getElem? (i := 21) (by decide +kernel)) rfl
theorem jw_134c2f8053 : Cond.fieldLink RX7 53 "SeriesFund$Tokens" "kind" "I" ∈ jj_G := jj_t1 (List.mem_of_getElem? (i := 49) (by decide +kernel)) rfl
theorem jw_df4da3d6c5 : Cond.fieldLink RX7 45 "SeriesFund$Tokens" "value" "I" ∈ jj_G := jj_t1 (List.mem_of_getElem? (i := 53) (by decide +kernel)) rfl
theorem jw_6064299bdc : Cond.instanceMethod yX7_readNumber ∈ jj_G := jj_t4 (List.mem_of_getElem? (i := 19) (by decide +kernel)) rfl
theorem jw_f0258e673c : Cond.selects RX7 yX7_readNumber yX7_readNumber ∈ jj_G := jj_pv (q := (yX7_readNumber, 6)) (by decide +kernel)
theorem jn_X7_readNumber : jj_N yX7_readNumber 0 := by unfold jj_N; decide +kernel
theorem jw_f3e3f3c0e3 : Cond.instanceMethod yX7_readOperation ∈ jj_G := jj_t3 (List.mem_of_getElem? (i := 238) (by decide +kernel)) rfl
theorem jw_c9488e7a7e : Cond.selects RX7 yX7_readOperation yX7_readOperation ∈ jj_G := jj_t3 (List.mem_of_getElem? (i := 239) (by decide +kernel)) rfl
theorem jn_X7_readOperation : jj_N yX7_readOperation 0 := by unfold jj_N; decide +kernel
theorem jw_048b460b76 : Cond.methodLink RX10 193 yX7_execute ∈ jj_G := jj_t4 (List.mem_of_getElem? (i := 22) (by decide +kernel)) rfl
theorem jw_e890299aba : Cond.code yX7_execute cX7_execute 1 (some .boolean) ∈ jj_G := jj_t4 (List.mem_of_getElem? (i := 25) (by decide +kernel)) rfl
theorem jw_87eae7e1e5 : Cond.methodLink RX7 76 yX7_fault ∈ jj_G := jj_t4 (List.mem_of_getElem? (i := 26) (by decide +kernel)) rfl
theorem jw_c8c917d40e : Cond.code yX7_fault cX7_fault 1 (some .int) ∈ jj_G := jj_t4 (List.mem_of_getElem? (i := 29) (by decide +kernel)) rfl
theorem jw_f5a257f58c : Cond.methodLink RX7 107 yX0_subscriptionFault ∈ jj_G := jj_t4 (List.mem_of_getElem? (i := 30) (by decide +kernel)) rfl
theorem jw_8ec37529cd : Cond.methodLink RX7 111 yX0_redemptionFault ∈ jj_G := jj_t4 (List.mem_of_getElem? (i := 39) (by decide +kernel)) rfl
theorem jw_7e6bed2b50 : Cond.methodLink RX7 114 yX2_earningFault ∈ jj_G := jj_t4 (List.mem_of_getElem? (i := 49) (by decide +kernel)) rfl
theorem jw_33478a1171 : Cond.methodLink RX7 118 yX2_passingFault ∈ jj_G := jj_t4 (List.mem_of_getElem? (i := 59) (by decide +kernel)) rfl
theorem jw_d967c277b3 : Cond.instanceMethod yX7_fault ∈ jj_G := jj_t4 (List.mem_of_getElem? (i := 28) (by decide +kernel)) rfl
theorem jw_fa9e6c1988 : Cond.selects RX7 yX7_fault yX7_fault ∈ jj_G := jj_pv (q := (yX7_fault, 6)) (by decide +kernel)
theorem jn_X7_fault : jj_N yX7_fault 0 := by unfold jj_N; decide +kernel
theorem jw_51b7c73a9c : Cond.methodLink RX7 79 yX0_addRequest ∈ jj_G := jj_t4 (List.mem_of_getElem? (i := 62) (by decide +kernel)) rfl
theorem jw_05c5b19f95 : Cond.methodLink RX7 85 yX1_holdDealing ∈ jj_G := jj_t4 (List.mem_of_getElem? (i := 63) (by decide +kernel)) rfl
theorem jw_7e37eafcf9 : Cond.methodLink RX7 91 yX2_earnRate ∈ jj_G := jj_t4 (List.mem_of_getElem? (i := 64) (by decide +kernel)) rfl
theorem jw_a8da4708d1 : Cond.methodLink RX7 97 yX2_chargeDays ∈ jj_G := jj_t4 (List.mem_of_getElem? (i := 67) (by decide +kernel)) rfl
theorem jw_914995352c : Cond.methodLink RX7 100 yX2_settleAll ∈ jj_G := jj_t4 (List.mem_of_getElem? (i := 71) (by decide +kernel)) rfl
theorem jw_7f66b9f911 : Cond.methodLink RX7 104 yX2_mergeAll ∈ jj_G := jj_t4 (List.mem_of_getElem? (i := 72) (by decide +kernel)) rfl
theorem jw_e3f2ab3506 : Cond.instanceMethod yX7_execute ∈ jj_G := jj_t4 (List.mem_of_getElem? (i := 23) (by decide +kernel)) rfl
theorem jw_701169423c : Cond.selects RX7 yX7_execute yX7_execute ∈ jj_G := jj_t4 (List.mem_of_getElem? (i := 24) (by decide +kernel)) rfl
theorem jn_X7_execute : jj_N yX7_execute 0 := by unfold jj_N; decide +kernel
theorem jw_da69bedc4e : Cond.methodLink RX10 337 yX0_limitOfGate ∈ jj_G := jj_t4 (List.mem_of_getElem? (i := 87) (by decide +kernel)) rfl
theorem jw_d061095114 : Cond.methodLink RX10 390 yX5_write ∈ jj_G := jj_t4 (List.mem_of_getElem? (i := 100) (by decide +kernel)) rfl
theorem jw_6cf6156307 : Cond.code yX5_write cX5_write 3 none ∈ jj_G := jj_t4 (List.mem_of_getElem? (i := 103) (by decide +kernel)) rfl
theorem jw_30ed28480a : Cond.initialized RX5 ∈ jj_G := jj_t1 (List.mem_of_getElem? (i := 8) (by decide +kernel)) rfl
theorem jw_a08fdff3bb : Cond.fieldLink RX5 15 "SeriesFund$Report" "length" "I" ∈ jj_G := jj_t2 (List.mem_of_getElem? (i := 86) (by decide +kernel)) rfl
theorem jw_ff91692536 : Cond.methodLink RX5 24 yX5_putText ∈ jj_G := jj_t4 (List.mem_of_getElem? (i := 105) (by decide +kernel)) rfl
theorem jw_5a16104e3b : Cond.code yX5_putText cX5_putText 3 none ∈ jj_G := jj_t4 (List.mem_of_getElem? (i := 108) (by decide +kernel)) rfl
theorem jw_07c280d6f3 : Cond.methodLink RX5 85 yJ0_length_8abf5 ∈ jj_G := jj_t4 (List.mem_of_getElem? (i := 109) (by decide +kernel)) rfl
theorem jw_d18806e438 : Cond.methodLink RX5 90 yJ0_charAt_5068e ∈ jj_G := jj_t4 (List.mem_of_getElem? (i := 110) (by decide +kernel)) rfl
theorem jw_cc20a77ce3 : Cond.methodLink RX5 94 yX5_putByte ∈ jj_G := jj_t4 (List.mem_of_getElem? (i := 111) (by decide +kernel)) rfl
theorem jw_f2c63e4be6 : Cond.code yX5_putByte cX5_putByte 2 none ∈ jj_G := jj_t4 (List.mem_of_getElem? (i := 114) (by decide +kernel)) rfl
theorem jw_b2cc65244f : Cond.fieldLink RX5 9 "SeriesFund$Report" "bytes" "[B" ∈ jj_G := jj_t2 (List.mem_of_getElem? (i := 84) (by decide +kernel)) rfl
theorem jw_211b56f0bf : Cond.instanceMethod yX5_putByte ∈ jj_G := jj_t4 (List.mem_of_getElem? (i := 113) (by decide +kernel)) rfl
theorem jw_e8686d9408 : Cond.selects RX5 yX5_putByte yX5_putByte ∈ jj_G := jj_pv (q := (yX5_putByte, 3)) (by decide +kernel)
theorem jn_X5_putByte : jj_N yX5_putByte 1 := by unfold jj_N; decide +kernel
theorem jw_b9307dcbf6 : Cond.instanceMethod yX5_putText ∈ jj_G := jj_t4 (List.mem_of_getElem? (i := 107) (by decide +kernel)) rfl
theorem jw_3d1837b6f1 : Cond.selects RX5 yX5_putText yX5_putText ∈ jj_G := jj_pv (q := (yX5_putText, 3)) (by decide +kernel)
theorem jn_X5_putText : jj_N yX5_putText 1 := by unfold jj_N; decide +kernel
theorem jw_0c71d3325d : Cond.fieldLink RX5 28 "SeriesFund$Book" "day" "I" ∈ jj_G := jj_t1 (List.mem_of_getElem? (i := 228) (by decide +kernel)) rfl
theorem jw_2dacb695e6 : Cond.methodLink RX5 33 yX5_putNumber ∈ jj_G := jj_t4 (List.mem_of_getElem? (i := 115) (by decide +kernel)) rfl
theorem jw_a47eeef3f1 : Cond.code yX5_putNumber cX5_putNumber 7 none ∈ jj_G := jj_t4 (List.mem_of_getElem? (i := 118) (by decide +kernel)) rfl
theorem jw_7b666017dd : Cond.fieldLink RX5 19 "SeriesFund$Report" "digits" "[B" ∈ jj_G := jj_t2 (List.mem_of_getElem? (i := 88) (by decide +kernel)) rfl
theorem jw_5fecb731cf : Cond.constantLong RX5 100 (48) ∈ jj_G := jj_t4 (List.mem_of_getElem? (i := 120) (by decide +kernel)) rfl
theorem jw_60554028df : Cond.constantLong RX5 102 (10) ∈ jj_G := jj_t4 (List.mem_of_getElem? (i := 121) (by decide +kernel)) rfl
theorem jw_7749df1616 : Cond.methodLink RX5 104 yJ9_abs_067f4 ∈ jj_G := jj_t4 (List.mem_of_getElem? (i := 122) (by decide +kernel)) rfl
theorem jw_320de93b97 : Cond.code yJ9_abs_067f4 cJ9_abs_067f4 2 (some .long) ∈ jj_G := jj_t4 (List.mem_of_getElem? (i := 124) (by decide +kernel)) rfl
theorem jw_453771f3e9 : Cond.static yJ9_abs_067f4 ∈ jj_G := jj_t4 (List.mem_of_getElem? (i := 123) (by decide +kernel)) rfl
theorem jn_J9_abs_067f4 : jj_N yJ9_abs_067f4 1 := by unfold jj_N; decide +kernel
theorem jw_15d69287eb : Cond.instanceMethod yX5_putNumber ∈ jj_G := jj_t4 (List.mem_of_getElem? (i := 117) (by decide +kernel)) rfl
theorem jw_824f0dd712 : Cond.selects RX5 yX5_putNumber yX5_putNumber ∈ jj_G := jj_pv (q := (yX5_putNumber, 3)) (by decide +kernel)
theorem jn_X5_putNumber : jj_N yX5_putNumber 1 := by unfold jj_N; decide +kernel
theorem jw_740d1217af : Cond.methodLink RX5 39 yX0_netOfAll ∈ jj_G := jj_t4 (List.mem_of_getElem? (i := 126) (by decide +kernel)) rfl
theorem jw_b483f2c809 : Cond.fieldLink RX5 45 "SeriesFund$Book" "seriesCount" "I" ∈ jj_G := jj_t1 (List.mem_of_getElem? (i := 234) (by decide +kernel)) rfl
theorem jw_299a079632 : Cond.fieldLink RX5 48 "SeriesFund$Book" "series" "[LSeriesFund$Series;" ∈ jj_G := jj_t2 (List.mem_of_getElem? (i := 10) (by decide +kernel)) rfl
theorem jw_5c341708bf : Cond.methodLink RX5 52 yX5_writeSeries ∈ jj_G := jj_t4 (List.mem_of_getElem? (i := 128) (by decide +kernel)) rfl
theorem jw_add0a538b6 : Cond.code yX5_writeSeries cX5_writeSeries 6 none ∈ jj_G := jj_t4 (List.mem_of_getElem? (i := 131) (by decide +kernel)) rfl
theorem jw_4056cb3c52 : Cond.fieldLink RX5 58 "SeriesFund$Series" "number" "I" ∈ jj_G := jj_t1 (List.mem_of_getElem? (i := 90) (by decide +kernel)) rfl
theorem jw_f25d108244 : Cond.fieldLink RX5 65 "SeriesFund$Book" "performanceFee" "I" ∈ jj_G := jj_t1 (List.mem_of_getElem? (i := 219) (by decide +kernel)) rfl
theorem jw_1c304628c6 : Cond.methodLink RX5 68 yX8_netPrice ∈ jj_G := jj_t4 (List.mem_of_getElem? (i := 134) (by decide +kernel)) rfl
theorem jw_9b2c2b57a7 : Cond.fieldLink RX5 72 "SeriesFund$Series" "mark" "J" ∈ jj_G := jj_t1 (List.mem_of_getElem? (i := 108) (by decide +kernel)) rfl
theorem jw_ee64ff1b96 : Cond.fieldLink RX5 76 "SeriesFund$Book" "investors" "I" ∈ jj_G := jj_t1 (List.mem_of_getElem? (i := 206) (by decide +kernel)) rfl
theorem jw_212dce9a7f : Cond.methodLink RX5 79 yX0_unitsHeldIn ∈ jj_G := jj_t4 (List.mem_of_getElem? (i := 140) (by decide +kernel)) rfl
theorem jw_d3c2cf7cde : Cond.instanceMethod yX5_writeSeries ∈ jj_G := jj_t4 (List.mem_of_getElem? (i := 130) (by decide +kernel)) rfl
theorem jw_e560e57f74 : Cond.selects RX5 yX5_writeSeries yX5_writeSeries ∈ jj_G := jj_pv (q := (yX5_writeSeries, 3)) (by decide +kernel)
theorem jn_X5_writeSeries : jj_N yX5_writeSeries 2 := by unfold jj_N; decide +kernel
theorem jw_88c832427c : Cond.instanceMethod yX5_write ∈ jj_G := jj_t4 (List.mem_of_getElem? (i := 101) (by decide +kernel)) rfl
theorem jw_50ebb45c96 : Cond.selects RX5 yX5_write yX5_write ∈ jj_G := jj_t4 (List.mem_of_getElem? (i := 102) (by decide +kernel)) rfl
theorem jn_X5_write : jj_N yX5_write 1 := by unfold jj_N; decide +kernel
theorem jw_d79d291ce5 : Cond.code yX10_account cX10_account 2 (some .long) ∈ jj_G := jj_t5 (List.mem_of_getElem? (i := 156) (by decide +kernel)) rfl
theorem jw_632226b39c : Cond.code yX10_appendText cX10_appendText 6 (some .int) ∈ jj_G := jj_t4 (List.mem_of_getElem? (i := 156) (by decide +kernel)) rfl
theorem jw_ed17b4a6ad : Cond.code yX10_bestGate cX10_bestGate 5 (some .int) ∈ jj_G := jj_t6 (List.mem_of_getElem? (i := 127) (by decide +kernel)) rfl
theorem jw_0a8c1a0f57 : Cond.code yX10_breakEven cX10_breakEven 7 (some .int) ∈ jj_G := jj_t6 (List.mem_of_getElem? (i := 68) (by decide +kernel)) rfl
theorem jw_a49c92decf : Cond.code yX10_count cX10_count 2 (some .int) ∈ jj_G := jj_t5 (List.mem_of_getElem? (i := 148) (by decide +kernel)) rfl
theorem jw_1cad7a53db : Cond.code yX10_daysUntil cX10_daysUntil 4 (some .int) ∈ jj_G := jj_t6 (List.mem_of_getElem? (i := 119) (by decide +kernel)) rfl
theorem jw_2b2f2630e6 : Cond.code yX10_dealsUntilDone cX10_dealsUntilDone 4 (some .int) ∈ jj_G := jj_t6 (List.mem_of_getElem? (i := 42) (by decide +kernel)) rfl
theorem jw_66bc37c428 : Cond.code yX10_earn cX10_earn 2 (some .long) ∈ jj_G := jj_t5 (List.mem_of_getElem? (i := 96) (by decide +kernel)) rfl
theorem jw_95d9388292 : Cond.code yX10_feesIf cX10_feesIf 5 (some .long) ∈ jj_G := jj_t6 (List.mem_of_getElem? (i := 59) (by decide +kernel)) rfl
theorem jw_781bc3d7b6 : Cond.code yX10_holding cX10_holding 3 (some .long) ∈ jj_G := jj_t5 (List.mem_of_getElem? (i := 219) (by decide +kernel)) rfl
theorem jw_dd46fce54b : Cond.code yX10_lot cX10_lot 4 (some .long) ∈ jj_G := jj_t5 (List.mem_of_getElem? (i := 192) (by decide +kernel)) rfl
theorem jw_7e16982f09 : Cond.code yX10_openSeries cX10_openSeries 2 (some .int) ∈ jj_G := jj_t5 (List.mem_of_getElem? (i := 164) (by decide +kernel)) rfl
theorem jw_f76c35ce46 : Cond.code yX10_passDays cX10_passDays 2 (some .long) ∈ jj_G := jj_t5 (List.mem_of_getElem? (i := 105) (by decide +kernel)) rfl
theorem jw_cedc8d3709 : Cond.code yX10_rateFor cX10_rateFor 5 (some .int) ∈ jj_G := jj_t6 (List.mem_of_getElem? (i := 96) (by decide +kernel)) rfl
theorem jw_bf324c0f63 : Cond.code yX10_redeem cX10_redeem 3 (some .int) ∈ jj_G := jj_t5 (List.mem_of_getElem? (i := 72) (by decide +kernel)) rfl
theorem jw_53e83ff6d2 : Cond.code yX10_reportByte cX10_reportByte 2 (some .int) ∈ jj_G := jj_t6 (List.mem_of_getElem? (i := 134) (by decide +kernel)) rfl
theorem jw_c2a2d64516 : Cond.code yX10_request cX10_request 4 (some .long) ∈ jj_G := jj_t5 (List.mem_of_getElem? (i := 200) (by decide +kernel)) rfl
theorem jw_bbba4fb508 : Cond.code yX10_richest cX10_richest 3 (some .int) ∈ jj_G := jj_t5 (List.mem_of_getElem? (i := 239) (by decide +kernel)) rfl
theorem jw_17efc87c3d : Cond.code yX10_seriesValue cX10_seriesValue 4 (some .long) ∈ jj_G := jj_t5 (List.mem_of_getElem? (i := 172) (by decide +kernel)) rfl
theorem jw_c5c7ce5394 : Cond.code yX10_setGate cX10_setGate 3 (some .int) ∈ jj_G := jj_t5 (List.mem_of_getElem? (i := 140) (by decide +kernel)) rfl
theorem jw_108abeeede : Cond.code yX10_share cX10_share 5 (some .double) ∈ jj_G := jj_t6 (List.mem_of_getElem? (i := 24) (by decide +kernel)) rfl
theorem jw_7347c5ace4 : Cond.code yX10_subscribe cX10_subscribe 3 (some .int) ∈ jj_G := jj_t5 (List.mem_of_getElem? (i := 45) (by decide +kernel)) rfl
theorem jw_7f799eb846 : Cond.code yX10_transfer cX10_transfer 4 (some .long) ∈ jj_G := jj_t5 (List.mem_of_getElem? (i := 114) (by decide +kernel)) rfl
theorem jw_be9ea47be0 : Cond.code yX10_truncateText cX10_truncateText 2 (some .int) ∈ jj_G := jj_t4 (List.mem_of_getElem? (i := 238) (by decide +kernel)) rfl
theorem jw_a04efaf693 : Cond.code yX10_undo cX10_undo 1 (some .int) ∈ jj_G := jj_t6 (List.mem_of_getElem? (i := 142) (by decide +kernel)) rfl
theorem jw_45a18b951a : Cond.code yX10_unitsOf cX10_unitsOf 2 (some .long) ∈ jj_G := jj_t5 (List.mem_of_getElem? (i := 207) (by decide +kernel)) rfl
theorem jw_0fd6256d51 : Cond.code yX10_valueOf cX10_valueOf 2 (some .long) ∈ jj_G := jj_t5 (List.mem_of_getElem? (i := 227) (by decide +kernel)) rfl
theorem jw_2960e68e35 : Cond.code yX10_withdraw cX10_withdraw 4 (some .long) ∈ jj_G := jj_t5 (List.mem_of_getElem? (i := 80) (by decide +kernel)) rfl
theorem jw_4fd80d1b98 : Cond.code yX10_wouldRedeem cX10_wouldRedeem 2 (some .long) ∈ jj_G := jj_t6 (List.mem_of_getElem? (i := 34) (by decide +kernel)) rfl
theorem jw_1f123082b6 : Cond.code yX10_parseFund cX10_parseFund 3 (some .int) ∈ jj_G := jj_t2 (List.mem_of_getElem? (i := 131) (by decide +kernel)) rfl
theorem jw_84c9e32d1d : Cond.code yX10_errorCode cX10_errorCode 1 (some .int) ∈ jj_G := jj_t3 (List.mem_of_getElem? (i := 162) (by decide +kernel)) rfl
theorem jw_f6366bab80 : Cond.code yX10_errorPosition cX10_errorPosition 1 (some .int) ∈ jj_G := jj_t3 (List.mem_of_getElem? (i := 166) (by decide +kernel)) rfl
theorem jw_d55abbfc57 : Cond.code yX10_deal cX10_deal 1 (some .int) ∈ jj_G := jj_t3 (List.mem_of_getElem? (i := 170) (by decide +kernel)) rfl
theorem jw_ac965d7551 : Cond.code yX10_crystallize cX10_crystallize 1 (some .long) ∈ jj_G := jj_t3 (List.mem_of_getElem? (i := 178) (by decide +kernel)) rfl
theorem jw_ecf0a5f18f : Cond.code yX10_merge cX10_merge 1 (some .int) ∈ jj_G := jj_t3 (List.mem_of_getElem? (i := 200) (by decide +kernel)) rfl
theorem jw_afb4873726 : Cond.code yX10_runScript cX10_runScript 4 (some .int) ∈ jj_G := jj_t3 (List.mem_of_getElem? (i := 210) (by decide +kernel)) rfl
theorem jw_f07e8aa61a : Cond.code yX10_netAssets cX10_netAssets 1 (some .long) ∈ jj_G := jj_t4 (List.mem_of_getElem? (i := 76) (by decide +kernel)) rfl
theorem jw_4749a9c2bd : Cond.code yX10_requestedValue cX10_requestedValue 1 (some .long) ∈ jj_G := jj_t4 (List.mem_of_getElem? (i := 81) (by decide +kernel)) rfl
theorem jw_aaf3b437c8 : Cond.code yX10_gateLimit cX10_gateLimit 1 (some .long) ∈ jj_G := jj_t4 (List.mem_of_getElem? (i := 86) (by decide +kernel)) rfl
theorem jw_9a54d39c49 : Cond.code yX10_wouldCrystallize cX10_wouldCrystallize 1 (some .long) ∈ jj_G := jj_t4 (List.mem_of_getElem? (i := 91) (by decide +kernel)) rfl
theorem jw_c13dd1adf5 : Cond.code yX10_wouldMerge cX10_wouldMerge 1 (some .int) ∈ jj_G := jj_t4 (List.mem_of_getElem? (i := 95) (by decide +kernel)) rfl
theorem jw_5ad844c1c2 : Cond.code yX10_writeReport cX10_writeReport 1 (some .int) ∈ jj_G := jj_t4 (List.mem_of_getElem? (i := 99) (by decide +kernel)) rfl
theorem jw_99e7f9eb39 : Cond.code yX10_undoDepth cX10_undoDepth 1 (some .int) ∈ jj_G := jj_t4 (List.mem_of_getElem? (i := 148) (by decide +kernel)) rfl
