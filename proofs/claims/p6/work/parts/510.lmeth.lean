theorem jw_40d004f371 : Cond.methodLink RL 50 yX10_account ∈ jj_G := jj_t5 (List.mem_of_getElem? (i := 153) (by decide +kernel)) rfl
theorem jw_9b20b7c98a : Cond.instanceMethod yX10_account ∈ jj_G := jj_t5 (List.mem_of_getElem? (i := 154) (by decide +kernel)) rfl
theorem jw_8a97f0751f : Cond.selects RX10 yX10_account yX10_account ∈ jj_G := jj_t5 (List.mem_of_getElem? (i := 155) (by decide +kernel)) rfl
theorem jn_X10_account : jj_N yX10_account 1 := by unfold jj_N; decide +kernel
theorem jw_bcdf9cc9d5 : Cond.classLink RL 19 "java/lang/IllegalArgumentException" ∈ jj_G := jj_t4 (List.mem_of_getElem? (i := 234) (by decide +kernel)) rfl
theorem jw_e7cf068d63 : Cond.codeWith yL_account cL_account 4 (some .int) [(0, 8, 11, 19)] ∈ jj_G := jj_t5 (List.mem_of_getElem? (i := 152) (by decide +kernel)) rfl
theorem jw_2c24bcc2f3 : Cond.methodLink RL 7 yX10_appendText ∈ jj_G := jj_t4 (List.mem_of_getElem? (i := 153) (by decide +kernel)) rfl
theorem jw_31840f3717 : Cond.instanceMethod yX10_appendText ∈ jj_G := jj_t4 (List.mem_of_getElem? (i := 154) (by decide +kernel)) rfl
theorem jw_f8da687761 : Cond.selects RX10 yX10_appendText yX10_appendText ∈ jj_G := jj_t4 (List.mem_of_getElem? (i := 155) (by decide +kernel)) rfl
theorem jn_X10_appendText : jj_N yX10_appendText 5 := by unfold jj_N; decide +kernel
theorem jw_98767da53c : Cond.classLink RL 13 "java/lang/IllegalStateException" ∈ jj_G := jj_t4 (List.mem_of_getElem? (i := 152) (by decide +kernel)) rfl
theorem jw_eb7816363b : Cond.codeWith yL_appendText cL_appendText 8 (some .int) [(0, 16, 19, 13)] ∈ jj_G := jj_t4 (List.mem_of_getElem? (i := 151) (by decide +kernel)) rfl
theorem jw_4a135dd7f2 : Cond.methodLink RL 106 yX10_bestGate ∈ jj_G := jj_t6 (List.mem_of_getElem? (i := 124) (by decide +kernel)) rfl
theorem jw_438bf9e35c : Cond.instanceMethod yX10_bestGate ∈ jj_G := jj_t6 (List.mem_of_getElem? (i := 125) (by decide +kernel)) rfl
theorem jw_e564c4c677 : Cond.selects RX10 yX10_bestGate yX10_bestGate ∈ jj_G := jj_t6 (List.mem_of_getElem? (i := 126) (by decide +kernel)) rfl
theorem jn_X10_bestGate : jj_N yX10_bestGate 1 := by unfold jj_N; decide +kernel
theorem jw_3b9ee68727 : Cond.classLink RL 25 "java/lang/IndexOutOfBoundsException" ∈ jj_G := jj_t5 (List.mem_of_getElem? (i := 18) (by decide +kernel)) rfl
theorem jw_ecfa92b8d3 : Cond.codeWith yL_bestGate cL_bestGate 4 (some .int) [(0, 9, 12, 25)] ∈ jj_G := jj_t6 (List.mem_of_getElem? (i := 123) (by decide +kernel)) rfl
theorem jw_a155918313 : Cond.methodLink RL 93 yX10_breakEven ∈ jj_G := jj_t6 (List.mem_of_getElem? (i := 65) (by decide +kernel)) rfl
theorem jw_1cfd0d79e1 : Cond.instanceMethod yX10_breakEven ∈ jj_G := jj_t6 (List.mem_of_getElem? (i := 66) (by decide +kernel)) rfl
theorem jw_b6ba38d4d1 : Cond.selects RX10 yX10_breakEven yX10_breakEven ∈ jj_G := jj_t6 (List.mem_of_getElem? (i := 67) (by decide +kernel)) rfl
theorem jn_X10_breakEven : jj_N yX10_breakEven 1 := by unfold jj_N; decide +kernel
theorem jw_a526bc76ac : Cond.classLink RL 96 "java/util/NoSuchElementException" ∈ jj_G := jj_t6 (List.mem_of_getElem? (i := 64) (by decide +kernel)) rfl
theorem jw_1c01a1aed3 : Cond.codeWith yL_breakEven cL_breakEven 4 (some .int) [(0, 9, 12, 25), (0, 9, 15, 96)] ∈ jj_G := jj_t6 (List.mem_of_getElem? (i := 63) (by decide +kernel)) rfl
theorem jw_03372242d5 : Cond.methodLink RL 47 yX10_count ∈ jj_G := jj_t5 (List.mem_of_getElem? (i := 145) (by decide +kernel)) rfl
theorem jw_c46f300717 : Cond.instanceMethod yX10_count ∈ jj_G := jj_t5 (List.mem_of_getElem? (i := 146) (by decide +kernel)) rfl
theorem jw_db0f7fdbc9 : Cond.selects RX10 yX10_count yX10_count ∈ jj_G := jj_t5 (List.mem_of_getElem? (i := 147) (by decide +kernel)) rfl
theorem jn_X10_count : jj_N yX10_count 1 := by unfold jj_N; decide +kernel
theorem jw_c8f9bf07c6 : Cond.codeWith yL_count cL_count 4 (some .int) [(0, 9, 12, 19)] ∈ jj_G := jj_t5 (List.mem_of_getElem? (i := 144) (by decide +kernel)) rfl
theorem jw_cc384dec92 : Cond.methodLink RL 102 yX10_daysUntil ∈ jj_G := jj_t6 (List.mem_of_getElem? (i := 116) (by decide +kernel)) rfl
theorem jw_4ea3db5de1 : Cond.instanceMethod yX10_daysUntil ∈ jj_G := jj_t6 (List.mem_of_getElem? (i := 117) (by decide +kernel)) rfl
theorem jw_a8635e0fca : Cond.selects RX10 yX10_daysUntil yX10_daysUntil ∈ jj_G := jj_t6 (List.mem_of_getElem? (i := 118) (by decide +kernel)) rfl
theorem jn_X10_daysUntil : jj_N yX10_daysUntil 1 := by unfold jj_N; decide +kernel
theorem jw_20534ee4a9 : Cond.codeWith yL_daysUntil cL_daysUntil 5 (some .int) [(0, 9, 12, 19)] ∈ jj_G := jj_t6 (List.mem_of_getElem? (i := 115) (by decide +kernel)) rfl
theorem jw_d1bd3cae24 : Cond.methodLink RL 87 yX10_dealsUntilDone ∈ jj_G := jj_t6 (List.mem_of_getElem? (i := 39) (by decide +kernel)) rfl
theorem jw_0337150930 : Cond.instanceMethod yX10_dealsUntilDone ∈ jj_G := jj_t6 (List.mem_of_getElem? (i := 40) (by decide +kernel)) rfl
theorem jw_0a8514ec66 : Cond.selects RX10 yX10_dealsUntilDone yX10_dealsUntilDone ∈ jj_G := jj_t6 (List.mem_of_getElem? (i := 41) (by decide +kernel)) rfl
theorem jn_X10_dealsUntilDone : jj_N yX10_dealsUntilDone 1 := by unfold jj_N; decide +kernel
theorem jw_4ddfc04859 : Cond.codeWith yL_dealsUntilDone cL_dealsUntilDone 4 (some .int) [(0, 9, 12, 25)] ∈ jj_G := jj_t6 (List.mem_of_getElem? (i := 38) (by decide +kernel)) rfl
theorem jw_907ae82a35 : Cond.methodLink RL 34 yX10_earn ∈ jj_G := jj_t5 (List.mem_of_getElem? (i := 93) (by decide +kernel)) rfl
theorem jw_0de3073e58 : Cond.instanceMethod yX10_earn ∈ jj_G := jj_t5 (List.mem_of_getElem? (i := 94) (by decide +kernel)) rfl
theorem jw_1aa669730b : Cond.selects RX10 yX10_earn yX10_earn ∈ jj_G := jj_t5 (List.mem_of_getElem? (i := 95) (by decide +kernel)) rfl
theorem jn_X10_earn : jj_N yX10_earn 1 := by unfold jj_N; decide +kernel
theorem jw_dc281b9698 : Cond.codeWith yL_earn cL_earn 4 (some .int) [(0, 8, 11, 19), (0, 8, 14, 13)] ∈ jj_G := jj_t5 (List.mem_of_getElem? (i := 92) (by decide +kernel)) rfl
theorem jw_39f26fe67e : Cond.methodLink RL 90 yX10_feesIf ∈ jj_G := jj_t6 (List.mem_of_getElem? (i := 56) (by decide +kernel)) rfl
theorem jw_7b1b85a6ba : Cond.instanceMethod yX10_feesIf ∈ jj_G := jj_t6 (List.mem_of_getElem? (i := 57) (by decide +kernel)) rfl
theorem jw_07ffb7e71d : Cond.selects RX10 yX10_feesIf yX10_feesIf ∈ jj_G := jj_t6 (List.mem_of_getElem? (i := 58) (by decide +kernel)) rfl
theorem jn_X10_feesIf : jj_N yX10_feesIf 1 := by unfold jj_N; decide +kernel
theorem jw_5cefa823e7 : Cond.codeWith yL_feesIf cL_feesIf 4 (some .int) [(0, 8, 11, 19)] ∈ jj_G := jj_t6 (List.mem_of_getElem? (i := 55) (by decide +kernel)) rfl
theorem jw_233b02895b : Cond.methodLink RL 69 yX10_holding ∈ jj_G := jj_t5 (List.mem_of_getElem? (i := 216) (by decide +kernel)) rfl
theorem jw_dea33d6912 : Cond.instanceMethod yX10_holding ∈ jj_G := jj_t5 (List.mem_of_getElem? (i := 217) (by decide +kernel)) rfl
theorem jw_6252a88d8c : Cond.selects RX10 yX10_holding yX10_holding ∈ jj_G := jj_t5 (List.mem_of_getElem? (i := 218) (by decide +kernel)) rfl
theorem jn_X10_holding : jj_N yX10_holding 2 := by unfold jj_N; decide +kernel
theorem jw_92c9fb3d9d : Cond.codeWith yL_holding cL_holding 5 (some .int) [(0, 9, 12, 25)] ∈ jj_G := jj_t5 (List.mem_of_getElem? (i := 215) (by decide +kernel)) rfl
theorem jw_6f1be7b380 : Cond.methodLink RL 60 yX10_lot ∈ jj_G := jj_t5 (List.mem_of_getElem? (i := 189) (by decide +kernel)) rfl
theorem jw_47e6670d88 : Cond.instanceMethod yX10_lot ∈ jj_G := jj_t5 (List.mem_of_getElem? (i := 190) (by decide +kernel)) rfl
theorem jw_3de98e0319 : Cond.selects RX10 yX10_lot yX10_lot ∈ jj_G := jj_t5 (List.mem_of_getElem? (i := 191) (by decide +kernel)) rfl
theorem jn_X10_lot : jj_N yX10_lot 2 := by unfold jj_N; decide +kernel
theorem jw_739cbf6537 : Cond.codeWith yL_lot cL_lot 5 (some .int) [(0, 9, 12, 25), (0, 9, 16, 19)] ∈ jj_G := jj_t5 (List.mem_of_getElem? (i := 188) (by decide +kernel)) rfl
theorem jw_0866c47bf7 : Cond.methodLink RL 53 yX10_openSeries ∈ jj_G := jj_t5 (List.mem_of_getElem? (i := 161) (by decide +kernel)) rfl
theorem jw_319a03cd9d : Cond.instanceMethod yX10_openSeries ∈ jj_G := jj_t5 (List.mem_of_getElem? (i := 162) (by decide +kernel)) rfl
theorem jw_afd2b792fd : Cond.selects RX10 yX10_openSeries yX10_openSeries ∈ jj_G := jj_t5 (List.mem_of_getElem? (i := 163) (by decide +kernel)) rfl
theorem jn_X10_openSeries : jj_N yX10_openSeries 1 := by unfold jj_N; decide +kernel
theorem jw_fcb27d7b3e : Cond.codeWith yL_openSeries cL_openSeries 4 (some .int) [(0, 9, 12, 25)] ∈ jj_G := jj_t5 (List.mem_of_getElem? (i := 160) (by decide +kernel)) rfl
theorem jw_6f520b970d : Cond.methodLink RL 37 yX10_passDays ∈ jj_G := jj_t5 (List.mem_of_getElem? (i := 102) (by decide +kernel)) rfl
theorem jw_e9b3a2b32d : Cond.instanceMethod yX10_passDays ∈ jj_G := jj_t5 (List.mem_of_getElem? (i := 103) (by decide +kernel)) rfl
theorem jw_8cab60786f : Cond.selects RX10 yX10_passDays yX10_passDays ∈ jj_G := jj_t5 (List.mem_of_getElem? (i := 104) (by decide +kernel)) rfl
theorem jn_X10_passDays : jj_N yX10_passDays 1 := by unfold jj_N; decide +kernel
theorem jw_9f20fb149b : Cond.codeWith yL_passDays cL_passDays 4 (some .int) [(0, 8, 11, 19)] ∈ jj_G := jj_t5 (List.mem_of_getElem? (i := 101) (by decide +kernel)) rfl
theorem jw_c97c0e5dc3 : Cond.methodLink RL 98 yX10_rateFor ∈ jj_G := jj_t6 (List.mem_of_getElem? (i := 93) (by decide +kernel)) rfl
theorem jw_5f4c44101a : Cond.instanceMethod yX10_rateFor ∈ jj_G := jj_t6 (List.mem_of_getElem? (i := 94) (by decide +kernel)) rfl
theorem jw_7f68fe029e : Cond.selects RX10 yX10_rateFor yX10_rateFor ∈ jj_G := jj_t6 (List.mem_of_getElem? (i := 95) (by decide +kernel)) rfl
theorem jn_X10_rateFor : jj_N yX10_rateFor 2 := by unfold jj_N; decide +kernel
theorem jw_966f430fed : Cond.codeWith yL_rateFor cL_rateFor 6 (some .int) [(0, 11, 14, 25), (0, 11, 18, 96)] ∈ jj_G := jj_t6 (List.mem_of_getElem? (i := 92) (by decide +kernel)) rfl
theorem jw_e656f390bc : Cond.methodLink RL 27 yX10_redeem ∈ jj_G := jj_t5 (List.mem_of_getElem? (i := 69) (by decide +kernel)) rfl
theorem jw_40ad2ca4b7 : Cond.instanceMethod yX10_redeem ∈ jj_G := jj_t5 (List.mem_of_getElem? (i := 70) (by decide +kernel)) rfl
theorem jw_73b24fa7c2 : Cond.selects RX10 yX10_redeem yX10_redeem ∈ jj_G := jj_t5 (List.mem_of_getElem? (i := 71) (by decide +kernel)) rfl
theorem jn_X10_redeem : jj_N yX10_redeem 2 := by unfold jj_N; decide +kernel
theorem jw_6df602aac0 : Cond.codeWith yL_redeem cL_redeem 5 (some .int) [(0, 10, 13, 25), (0, 10, 17, 19), (0, 10, 21, 13)] ∈ jj_G := jj_t5 (List.mem_of_getElem? (i := 68) (by decide +kernel)) rfl
theorem jw_e1f14d18cd : Cond.methodLink RL 109 yX10_reportByte ∈ jj_G := jj_t6 (List.mem_of_getElem? (i := 131) (by decide +kernel)) rfl
theorem jw_49b0545e88 : Cond.instanceMethod yX10_reportByte ∈ jj_G := jj_t6 (List.mem_of_getElem? (i := 132) (by decide +kernel)) rfl
theorem jw_5a796b90d7 : Cond.selects RX10 yX10_reportByte yX10_reportByte ∈ jj_G := jj_t6 (List.mem_of_getElem? (i := 133) (by decide +kernel)) rfl
theorem jn_X10_reportByte : jj_N yX10_reportByte 1 := by unfold jj_N; decide +kernel
theorem jw_6dbc153eb3 : Cond.codeWith yL_reportByte cL_reportByte 4 (some .int) [(0, 9, 12, 25)] ∈ jj_G := jj_t6 (List.mem_of_getElem? (i := 130) (by decide +kernel)) rfl
theorem jw_bbf0f42e45 : Cond.methodLink RL 63 yX10_request ∈ jj_G := jj_t5 (List.mem_of_getElem? (i := 197) (by decide +kernel)) rfl
theorem jw_7c13b9e5ec : Cond.instanceMethod yX10_request ∈ jj_G := jj_t5 (List.mem_of_getElem? (i := 198) (by decide +kernel)) rfl
theorem jw_bcb961214c : Cond.selects RX10 yX10_request yX10_request ∈ jj_G := jj_t5 (List.mem_of_getElem? (i := 199) (by decide +kernel)) rfl
theorem jn_X10_request : jj_N yX10_request 2 := by unfold jj_N; decide +kernel
theorem jw_eedf042953 : Cond.codeWith yL_request cL_request 5 (some .int) [(0, 9, 12, 25), (0, 9, 16, 19)] ∈ jj_G := jj_t5 (List.mem_of_getElem? (i := 196) (by decide +kernel)) rfl
theorem jw_b2dd56f5c2 : Cond.methodLink RL 75 yX10_richest ∈ jj_G := jj_t5 (List.mem_of_getElem? (i := 236) (by decide +kernel)) rfl
theorem jw_7f534a9c1b : Cond.instanceMethod yX10_richest ∈ jj_G := jj_t5 (List.mem_of_getElem? (i := 237) (by decide +kernel)) rfl
theorem jw_b227cffd38 : Cond.selects RX10 yX10_richest yX10_richest ∈ jj_G := jj_t5 (List.mem_of_getElem? (i := 238) (by decide +kernel)) rfl
theorem jn_X10_richest : jj_N yX10_richest 1 := by unfold jj_N; decide +kernel
theorem jw_342b2ea352 : Cond.codeWith yL_richest cL_richest 4 (some .int) [(0, 9, 12, 25)] ∈ jj_G := jj_t5 (List.mem_of_getElem? (i := 235) (by decide +kernel)) rfl
theorem jw_06bb5afd56 : Cond.methodLink RL 56 yX10_seriesValue ∈ jj_G := jj_t5 (List.mem_of_getElem? (i := 169) (by decide +kernel)) rfl
theorem jw_bd1c4382f6 : Cond.instanceMethod yX10_seriesValue ∈ jj_G := jj_t5 (List.mem_of_getElem? (i := 170) (by decide +kernel)) rfl
theorem jw_8271804ff3 : Cond.selects RX10 yX10_seriesValue yX10_seriesValue ∈ jj_G := jj_t5 (List.mem_of_getElem? (i := 171) (by decide +kernel)) rfl
theorem jn_X10_seriesValue : jj_N yX10_seriesValue 2 := by unfold jj_N; decide +kernel
theorem jw_17d8e864a4 : Cond.codeWith yL_seriesValue cL_seriesValue 5 (some .int) [(0, 9, 12, 25), (0, 9, 16, 19)] ∈ jj_G := jj_t5 (List.mem_of_getElem? (i := 168) (by decide +kernel)) rfl
theorem jw_95db711199 : Cond.methodLink RL 44 yX10_setGate ∈ jj_G := jj_t5 (List.mem_of_getElem? (i := 137) (by decide +kernel)) rfl
theorem jw_7757fc75cc : Cond.instanceMethod yX10_setGate ∈ jj_G := jj_t5 (List.mem_of_getElem? (i := 138) (by decide +kernel)) rfl
theorem jw_1e3b0abcea : Cond.selects RX10 yX10_setGate yX10_setGate ∈ jj_G := jj_t5 (List.mem_of_getElem? (i := 139) (by decide +kernel)) rfl
theorem jn_X10_setGate : jj_N yX10_setGate 1 := by unfold jj_N; decide +kernel
theorem jw_5c8724c074 : Cond.codeWith yL_setGate cL_setGate 4 (some .int) [(0, 9, 12, 19)] ∈ jj_G := jj_t5 (List.mem_of_getElem? (i := 136) (by decide +kernel)) rfl
theorem jw_b6b1bb001e : Cond.methodLink RL 78 yX10_share ∈ jj_G := jj_t6 (List.mem_of_getElem? (i := 21) (by decide +kernel)) rfl
theorem jw_49d22693e1 : Cond.instanceMethod yX10_share ∈ jj_G := jj_t6 (List.mem_of_getElem? (i := 22) (by decide +kernel)) rfl
theorem jw_3be8210133 : Cond.selects RX10 yX10_share yX10_share ∈ jj_G := jj_t6 (List.mem_of_getElem? (i := 23) (by decide +kernel)) rfl
theorem jn_X10_share : jj_N yX10_share 1 := by unfold jj_N; decide +kernel
theorem jw_beeb034c2f : Cond.classLink RL 82 "java/lang/ArithmeticException" ∈ jj_G := jj_t6 (List.mem_of_getElem? (i := 7) (by decide +kernel)) rfl
theorem jw_df05153913 : Cond.codeWith yL_share cL_share 4 (some .int) [(0, 8, 11, 25), (0, 8, 14, 82)] ∈ jj_G := jj_t6 (List.mem_of_getElem? (i := 6) (by decide +kernel)) rfl
theorem jw_94b7049fd7 : Cond.methodLink RL 21 yX10_subscribe ∈ jj_G := jj_t5 (List.mem_of_getElem? (i := 42) (by decide +kernel)) rfl
theorem jw_2037e7d560 : Cond.instanceMethod yX10_subscribe ∈ jj_G := jj_t5 (List.mem_of_getElem? (i := 43) (by decide +kernel)) rfl
theorem jw_843724dd5d : Cond.selects RX10 yX10_subscribe yX10_subscribe ∈ jj_G := jj_t5 (List.mem_of_getElem? (i := 44) (by decide +kernel)) rfl
theorem jn_X10_subscribe : jj_N yX10_subscribe 2 := by unfold jj_N; decide +kernel
theorem jw_28bba61b96 : Cond.codeWith yL_subscribe cL_subscribe 5 (some .int) [(0, 10, 13, 25), (0, 10, 17, 19), (0, 10, 21, 13)] ∈ jj_G := jj_t5 (List.mem_of_getElem? (i := 17) (by decide +kernel)) rfl
theorem jw_0a178dbbf7 : Cond.methodLink RL 40 yX10_transfer ∈ jj_G := jj_t5 (List.mem_of_getElem? (i := 111) (by decide +kernel)) rfl
theorem jw_c1b570b7f5 : Cond.instanceMethod yX10_transfer ∈ jj_G := jj_t5 (List.mem_of_getElem? (i := 112) (by decide +kernel)) rfl
theorem jw_b7aa79b4f9 : Cond.selects RX10 yX10_transfer yX10_transfer ∈ jj_G := jj_t5 (List.mem_of_getElem? (i := 113) (by decide +kernel)) rfl
theorem jn_X10_transfer : jj_N yX10_transfer 3 := by unfold jj_N; decide +kernel
theorem jw_22302afebd : Cond.codeWith yL_transfer cL_transfer 6 (some .int) [(0, 11, 14, 25), (0, 11, 18, 19), (0, 11, 22, 13)] ∈ jj_G := jj_t5 (List.mem_of_getElem? (i := 110) (by decide +kernel)) rfl
theorem jw_204fe82658 : Cond.methodLink RL 15 yX10_truncateText ∈ jj_G := jj_t4 (List.mem_of_getElem? (i := 235) (by decide +kernel)) rfl
theorem jw_543edc65f6 : Cond.instanceMethod yX10_truncateText ∈ jj_G := jj_t4 (List.mem_of_getElem? (i := 236) (by decide +kernel)) rfl
theorem jw_ee12d9d0f5 : Cond.selects RX10 yX10_truncateText yX10_truncateText ∈ jj_G := jj_t4 (List.mem_of_getElem? (i := 237) (by decide +kernel)) rfl
theorem jn_X10_truncateText : jj_N yX10_truncateText 1 := by unfold jj_N; decide +kernel
theorem jw_20a52f5034 : Cond.codeWith yL_truncateText cL_truncateText 4 (some .int) [(0, 9, 12, 19)] ∈ jj_G := jj_t4 (List.mem_of_getElem? (i := 233) (by decide +kernel)) rfl
theorem jw_e9e76a7b48 : Cond.methodLink RL 112 yX10_undo ∈ jj_G := jj_t6 (List.mem_of_getElem? (i := 139) (by decide +kernel)) rfl
theorem jw_79dfa11b66 : Cond.instanceMethod yX10_undo ∈ jj_G := jj_t6 (List.mem_of_getElem? (i := 140) (by decide +kernel)) rfl
theorem jw_fcf2ead5be : Cond.selects RX10 yX10_undo yX10_undo ∈ jj_G := jj_t6 (List.mem_of_getElem? (i := 141) (by decide +kernel)) rfl
theorem jn_X10_undo : jj_N yX10_undo 0 := by unfold jj_N; decide +kernel
theorem jw_c5bba28514 : Cond.codeWith yL_undo cL_undo 3 (some .int) [(0, 8, 11, 13)] ∈ jj_G := jj_t6 (List.mem_of_getElem? (i := 138) (by decide +kernel)) rfl
theorem jw_b71df4cb8f : Cond.methodLink RL 66 yX10_unitsOf ∈ jj_G := jj_t5 (List.mem_of_getElem? (i := 204) (by decide +kernel)) rfl
theorem jw_a8a99550f3 : Cond.instanceMethod yX10_unitsOf ∈ jj_G := jj_t5 (List.mem_of_getElem? (i := 205) (by decide +kernel)) rfl
theorem jw_b1f1260dc4 : Cond.selects RX10 yX10_unitsOf yX10_unitsOf ∈ jj_G := jj_t5 (List.mem_of_getElem? (i := 206) (by decide +kernel)) rfl
theorem jn_X10_unitsOf : jj_N yX10_unitsOf 1 := by unfold jj_N; decide +kernel
theorem jw_b7113859cd : Cond.codeWith yL_unitsOf cL_unitsOf 4 (some .int) [(0, 8, 11, 25)] ∈ jj_G := jj_t5 (List.mem_of_getElem? (i := 203) (by decide +kernel)) rfl
theorem jw_57716a5634 : Cond.methodLink RL 72 yX10_valueOf ∈ jj_G := jj_t5 (List.mem_of_getElem? (i := 224) (by decide +kernel)) rfl
theorem jw_0efd692f14 : Cond.instanceMethod yX10_valueOf ∈ jj_G := jj_t5 (List.mem_of_getElem? (i := 225) (by decide +kernel)) rfl
theorem jw_201d696cf2 : Cond.selects RX10 yX10_valueOf yX10_valueOf ∈ jj_G := jj_t5 (List.mem_of_getElem? (i := 226) (by decide +kernel)) rfl
theorem jn_X10_valueOf : jj_N yX10_valueOf 1 := by unfold jj_N; decide +kernel
theorem jw_fc5a5a0a46 : Cond.codeWith yL_valueOf cL_valueOf 4 (some .int) [(0, 8, 11, 25)] ∈ jj_G := jj_t5 (List.mem_of_getElem? (i := 223) (by decide +kernel)) rfl
theorem jw_04a6955291 : Cond.methodLink RL 30 yX10_withdraw ∈ jj_G := jj_t5 (List.mem_of_getElem? (i := 77) (by decide +kernel)) rfl
theorem jw_b5cc6200cc : Cond.instanceMethod yX10_withdraw ∈ jj_G := jj_t5 (List.mem_of_getElem? (i := 78) (by decide +kernel)) rfl
theorem jw_a24b3c4807 : Cond.selects RX10 yX10_withdraw yX10_withdraw ∈ jj_G := jj_t5 (List.mem_of_getElem? (i := 79) (by decide +kernel)) rfl
theorem jn_X10_withdraw : jj_N yX10_withdraw 1 := by unfold jj_N; decide +kernel
theorem jw_e29588f0d8 : Cond.codeWith yL_withdraw cL_withdraw 4 (some .int) [(0, 8, 11, 25)] ∈ jj_G := jj_t5 (List.mem_of_getElem? (i := 76) (by decide +kernel)) rfl
theorem jw_435f117a9b : Cond.methodLink RL 84 yX10_wouldRedeem ∈ jj_G := jj_t6 (List.mem_of_getElem? (i := 31) (by decide +kernel)) rfl
theorem jw_2b21c464ce : Cond.instanceMethod yX10_wouldRedeem ∈ jj_G := jj_t6 (List.mem_of_getElem? (i := 32) (by decide +kernel)) rfl
theorem jw_8e78db42da : Cond.selects RX10 yX10_wouldRedeem yX10_wouldRedeem ∈ jj_G := jj_t6 (List.mem_of_getElem? (i := 33) (by decide +kernel)) rfl
theorem jn_X10_wouldRedeem : jj_N yX10_wouldRedeem 1 := by unfold jj_N; decide +kernel
theorem jw_696dffebec : Cond.codeWith yL_wouldRedeem cL_wouldRedeem 4 (some .int) [(0, 8, 11, 25)] ∈ jj_G := jj_t6 (List.mem_of_getElem? (i := 30) (by decide +kernel)) rfl

set_option maxHeartbeats 4000000 in
set_option maxRecDepth 100000 in
theorem lm_account {l : Launch} (hl : l.stackTraces = false) (D : va_G) (cA : Nat → ClassId) (ak : (Nat → Nat) × (Nat → Nat)) {Kd : Nat → Nat} (h0 ho : Nat) (p1 : Int32) (g0 : Nat → Int64) (hk0 : Kd h0 = 15) {pl0 : va_W} (hok : tt_ok tt_tk cA Kd pl0) : jj_M l D cA ak yL_account (.codeWith yL_account cL_account 4 (some .int) [(0, 8, 11, 19)]) 7 103 1 6 ([(ho, .inl (cA 2, 1, .inr (.inl g0)))] ++ pl0) [.ref h0, .int p1, .ref ho] (tt_O (fun rx pl1 r => ∃ K1 : Nat → Nat, tt_ex Kd K1 ∧ tt_ok tt_tk cA K1 pl1 ∧ tt_fr Kd [] pl0 pl1 ∧ tt_fa Kd [] pl0 pl1 ∧ ∃ (g1 : Nat → Int64) (v : Int32), rx = [(ho, .inl (cA 2, 1, .inr (.inl g1)))] ∧ r = some (.int v))) (tt_OX (fun _ _ _ => False)) := by
  refine jj_startW hl (by decide) jw_e7cf068d63 (jj_le rfl) ?_
  intro p e s m args below meth c A hargs hA C htab hmn
  have lp1 := tt_lo p1
  have up1 := tt_hi p1
  refine jj_aload_n C dL_account_0 rfl ?_
  refine jj_iconst (v := 0) C dL_account_1 (by decide) ?_
  refine jj_aload_n C dL_account_2 rfl ?_
  refine jj_iload_n C dL_account_3 rfl ?_
  obtain ⟨qc, gs, hqc⟩ := tt_recv (cx := []) hok hk0 (by decide) rfl
  refine tt_callV (rest := [.int 0, .ref ho]) C (tc_X10_account_1 hl D cA ak h0 p1 hk0 hok) [] [0] rfl rfl (by decide) (by decide) (by decide) qc hqc rfl rfl jw_40d004f371 jw_9b20b7c98a jw_8a97f0751f jw_6f6d707074 jw_d79d291ce5 jn_X10_account rfl (jj_le rfl) (jj_le rfl) (jj_le rfl) (jj_le rfl) (jj_le rfl) dL_account_4 rfl (fun E rx pl_1 X_5 => ?_) (fun rx pl_1 r O_4 => ?_)
  · obtain ⟨rfl, hok_2, hr_3, hfa9, hE⟩ := X_5
    obtain rfl := hE
    refine jj_catch C [] (⟨0, 8, 11, 19⟩ : ExceptionTableEntry) [] (htab.trans rfl) (fun z hz => by cases hz) (by decide) (by decide) jw_bcdf9cc9d5 (by decide +kernel) (fun q9 => ?_)
    refine jj_astore_n C dL_account_11 (by decide) rfl ?_
    refine jj_iconst (v := 1) C dL_account_12 (by decide) ?_
    exact jj_iret C ⟨[_], pl_1, rfl, Kd, (tt_ex.refl _), hok_2, (hr_3.sub (by decide)), (hfa9.sub (by decide)), _, (1 : Int32), rfl, rfl⟩ dL_account_13 (jj_le rfl) (jj_le rfl)
  · obtain ⟨rfl, hok_2, hr_3, hfa9, hR_8⟩ := O_4
    obtain ⟨y_9, -, -, rfl⟩ := hR_8
    refine jj_last C 0 rfl (vp_in_iff.mpr (by decide)) (g := (vp_updL g0 0 y_9)) rfl rfl dL_account_7 ?_
    refine jj_goto (tgt := 14) C dL_account_8 (by decide) ?_
    refine jj_iconst (v := 0) C dL_account_14 (by decide) ?_
    exact jj_iret C ⟨[_], pl_1, rfl, Kd, (tt_ex.refl _), hok_2, (hr_3.sub (by decide)), (hfa9.sub (by decide)), _, (0 : Int32), rfl, rfl⟩ dL_account_15 (jj_le rfl) (jj_le rfl)

set_option maxHeartbeats 4000000 in
set_option maxRecDepth 100000 in
theorem lm_appendText {l : Launch} (hl : l.stackTraces = false) (D : va_G) (cA : Nat → ClassId) (ak : (Nat → Nat) × (Nat → Nat)) {Kd : Nat → Nat} (h0 ho : Nat) (at0 a9 : Nat) (p1 : Int32) (p2 : Int32) (p3 : Int32) (p4 : Int32) (p5 : Int32) (n : Nat) (u : Nat → Int32) (g0 : Nat → Int64) (hk0 : Kd h0 = 15) (hk1 : Kd at0 = 10) (hk9 : Kd a9 = 11) (ln : n ≤ 400) {pl0 : va_W} (hok : tt_ok tt_tk cA Kd pl0) (ha0 : tt_at pl0 h0 0 (.ref at0)) (hx0 : tt_at pl0 at0 0 (.ref a9)) (hf0 : tt_at pl0 at0 1 (.int (nI n))) (hu : tt_ic pl0 a9 u) : jj_M l D cA ak yL_appendText (.codeWith yL_appendText cL_appendText 8 (some .int) [(0, 16, 19, 13)]) 7 107 1 6 ([(ho, .inl (cA 2, 1, .inr (.inl g0)))] ++ pl0) [.ref h0, .int p1, .int p2, .int p3, .int p4, .int p5, .ref ho] (tt_O (fun rx pl1 r => tt_ok tt_tk cA Kd pl1 ∧ tt_fr Kd [(10, 1)] pl0 pl1 ∧ tt_fa Kd [11] pl0 pl1 ∧ ((n ≤ 380 ∧ tt_at pl1 at0 1 (.int (nI (20 + n))) ∧ (∃ v : Nat → Int32, tt_ic pl1 a9 v ∧ (∀ k : Nat, k < n → v k = u k) ∧ v (n) = te_c p1 24 ∧ v (1 + n) = te_c p1 16 ∧ v (2 + n) = te_c p1 8 ∧ v (3 + n) = te_c p1 0 ∧ v (4 + n) = te_c p2 24 ∧ v (5 + n) = te_c p2 16 ∧ v (6 + n) = te_c p2 8 ∧ v (7 + n) = te_c p2 0 ∧ v (8 + n) = te_c p3 24 ∧ v (9 + n) = te_c p3 16 ∧ v (10 + n) = te_c p3 8 ∧ v (11 + n) = te_c p3 0 ∧ v (12 + n) = te_c p4 24 ∧ v (13 + n) = te_c p4 16 ∧ v (14 + n) = te_c p4 8 ∧ v (15 + n) = te_c p4 0 ∧ v (16 + n) = te_c p5 24 ∧ v (17 + n) = te_c p5 16 ∧ v (18 + n) = te_c p5 8 ∧ v (19 + n) = te_c p5 0) ∧ rx = [(ho, .inl (cA 2, 1, .inr (.inl (vp_updL g0 0 (nI (20 + n)).toInt64))))] ∧ r = some (.int 0)) ∨ (380 < n ∧ tt_at pl1 at0 1 (.int (nI n)) ∧ tt_ic pl1 a9 u ∧ rx = [(ho, .inl (cA 2, 1, .inr (.inl g0)))] ∧ r = some (.int 1))))) (tt_OX (fun _ _ _ => False)) := by
  refine jj_startW hl (by decide) jw_eb7816363b (jj_le rfl) ?_
  intro p e s m args below meth c A hargs hA C htab hmn
  have lp1 := tt_lo p1
  have up1 := tt_hi p1
  have lp2 := tt_lo p2
  have up2 := tt_hi p2
  have lp3 := tt_lo p3
  have up3 := tt_hi p3
  have lp4 := tt_lo p4
  have up4 := tt_hi p4
  have lp5 := tt_lo p5
  have up5 := tt_hi p5
  refine jj_aload C dL_appendText_0 rfl ?_
  refine jj_iconst (v := 0) C dL_appendText_2 (by decide) ?_
  refine jj_aload_n C dL_appendText_3 rfl ?_
  refine jj_iload_n C dL_appendText_4 rfl ?_
  refine jj_iload_n C dL_appendText_5 rfl ?_
  refine jj_iload_n C dL_appendText_6 rfl ?_
  refine jj_iload C dL_appendText_7 rfl ?_
  refine jj_iload C dL_appendText_9 rfl ?_
  obtain ⟨qc, gs, hqc⟩ := tt_recv (cx := []) hok hk0 (by decide) rfl
  refine tt_callV (rest := [.int 0, .ref ho]) C (te_appendText hl D cA ak h0 at0 a9 n u p1 p2 p3 p4 p5 hk0 hk1 hk9 ln hok ha0 hx0 hf0 hu) [] [0] rfl rfl (by decide) (by decide) (by decide) qc hqc rfl rfl jw_2c24bcc2f3 jw_31840f3717 jw_f8da687761 jw_6f6d707074 jw_632226b39c jn_X10_appendText rfl (jj_le rfl) (jj_le rfl) (jj_le rfl) (jj_le rfl) (jj_le rfl) dL_appendText_11 rfl (fun E rx pl_1 X_5 => ?_) (fun rx pl_1 r O_4 => ?_)
  · obtain ⟨rfl, hok_2, hr_3, hfa9, hE⟩ := X_5
    obtain ⟨hq1, rfl, hq2, hq3⟩ := hE
    refine jj_catch C [] (⟨0, 16, 19, 13⟩ : ExceptionTableEntry) [] (htab.trans rfl) (fun z hz => by cases hz) (by decide) (by decide) jw_98767da53c (by decide +kernel) (fun q9 => ?_)
    refine jj_astore C dL_appendText_19 (by decide) rfl ?_
    refine jj_iconst (v := 1) C dL_appendText_21 (by decide) ?_
    exact jj_iret C ⟨[_], pl_1, rfl, hok_2, (hr_3.sub (by decide)), (hfa9.sub (by decide)), Or.inr ⟨hq1, hq2, hq3, rfl, rfl⟩⟩ dL_appendText_22 (jj_le rfl) (jj_le rfl)
  · obtain ⟨rfl, hok_2, hr_3, hfa9, hR_8⟩ := O_4
    obtain ⟨hq1, hq2, hq3, rfl⟩ := hR_8
    obtain ⟨y_9, ey_9, vy_9⟩ := tt_i2l (nI (20 + n))
    refine jj_i2l (v := y_9) C dL_appendText_14 ey_9 ?_
    refine jj_last C 0 rfl (vp_in_iff.mpr (by decide)) (g := (vp_updL g0 0 y_9)) rfl rfl dL_appendText_15 ?_
    refine jj_goto (tgt := 23) C dL_appendText_16 (by decide) ?_
    refine jj_iconst (v := 0) C dL_appendText_23 (by decide) ?_
    exact jj_iret C ⟨[_], pl_1, rfl, hok_2, (hr_3.sub (by decide)), (hfa9.sub (by decide)), Or.inl ⟨hq1, hq2, hq3, (by rw [ey_9]), rfl⟩⟩ dL_appendText_24 (jj_le rfl) (jj_le rfl)

set_option maxHeartbeats 4000000 in
set_option maxRecDepth 100000 in
theorem lm_bestGate {l : Launch} (hl : l.stackTraces = false) (D : va_G) (cA : Nat → ClassId) (ak : (Nat → Nat) × (Nat → Nat)) {Kd : Nat → Nat} (h0 ho : Nat) (p1 : Int32) (g0 : Nat → Int64) (hk0 : Kd h0 = 15) {pl0 : va_W} (hok : tt_ok tt_tk cA Kd pl0) : jj_M l D cA ak yL_bestGate (.codeWith yL_bestGate cL_bestGate 4 (some .int) [(0, 9, 12, 25)]) 9 147 1 6 ([(ho, .inl (cA 2, 1, .inr (.inl g0)))] ++ pl0) [.ref h0, .int p1, .ref ho] (tt_O (fun rx pl1 r => ∃ K1 : Nat → Nat, tt_ex Kd K1 ∧ tt_ok tt_tk cA K1 pl1 ∧ tt_fr Kd [(1, 0), (1, 1), (1, 2), (1, 3), (1, 4), (1, 5), (1, 6), (1, 7), (1, 8), (1, 9), (2, 0), (2, 1), (2, 2), (2, 3), (2, 4), (3, 0), (3, 1), (3, 2), (3, 3), (3, 4), (3, 5), (4, 0), (4, 1), (4, 2), (4, 3), (4, 4), (9, 1), (9, 2), (9, 3), (9, 4), (9, 5)] pl0 pl1 ∧ tt_fa Kd [5] pl0 pl1 ∧ ∃ (g1 : Nat → Int64) (v : Int32), rx = [(ho, .inl (cA 2, 1, .inr (.inl g1)))] ∧ r = some (.int v))) (tt_OX (fun _ _ _ => False)) := by
  refine jj_startW hl (by decide) jw_ecfa92b8d3 (jj_le rfl) ?_
  intro p e s m args below meth c A hargs hA C htab hmn
  have lp1 := tt_lo p1
  have up1 := tt_hi p1
  refine jj_aload_n C dL_bestGate_0 rfl ?_
  refine jj_iconst (v := 0) C dL_bestGate_1 (by decide) ?_
  refine jj_aload_n C dL_bestGate_2 rfl ?_
  refine jj_iload_n C dL_bestGate_3 rfl ?_
  obtain ⟨qc, gs, hqc⟩ := tt_recv (cx := []) hok hk0 (by decide) rfl
  refine tt_callV (rest := [.int 0, .ref ho]) C (tc_X10_bestGate_1 hl D cA ak h0 p1 hk0 hok) [] [0] rfl rfl (by decide) (by decide) (by decide) qc hqc rfl rfl jw_4a135dd7f2 jw_438bf9e35c jw_e564c4c677 jw_6f6d707074 jw_ed17b4a6ad jn_X10_bestGate rfl (jj_le rfl) (jj_le rfl) (jj_le rfl) (jj_le rfl) (jj_le rfl) dL_bestGate_4 rfl (fun E rx pl_1 X_5 => ?_) (fun rx pl_1 r O_4 => ?_)
  · obtain ⟨rfl, hok_2, hr_3, hfa9, hE⟩ := X_5
    obtain rfl := hE
    refine jj_catch C [] (⟨0, 9, 12, 25⟩ : ExceptionTableEntry) [] (htab.trans rfl) (fun z hz => by cases hz) (by decide) (by decide) jw_3b9ee68727 (by decide +kernel) (fun q9 => ?_)
    refine jj_astore_n C dL_bestGate_12 (by decide) rfl ?_
    refine jj_iconst (v := 1) C dL_bestGate_13 (by decide) ?_
    exact jj_iret C ⟨[_], pl_1, rfl, Kd, (tt_ex.refl _), hok_2, (hr_3.sub (by decide)), (hfa9.sub (by decide)), _, (1 : Int32), rfl, rfl⟩ dL_bestGate_14 (jj_le rfl) (jj_le rfl)
  · obtain ⟨rfl, hok_2, hr_3, hfa9, hR_8⟩ := O_4
    rcases hR_8 with ⟨-, -, rfl⟩ | ⟨x_9, -, -, -, -, rfl⟩
    · refine jj_i2l (v := (-1)) C dL_bestGate_7 (by decide) ?_
      refine jj_last C 0 rfl (vp_in_iff.mpr (by decide)) (g := (vp_updL g0 0 ((-1) : Int64))) rfl rfl dL_bestGate_8 ?_
      refine jj_goto (tgt := 15) C dL_bestGate_9 (by decide) ?_
      refine jj_iconst (v := 0) C dL_bestGate_15 (by decide) ?_
      exact jj_iret C ⟨[_], pl_1, rfl, Kd, (tt_ex.refl _), hok_2, (hr_3.sub (by decide)), (hfa9.sub (by decide)), _, (0 : Int32), rfl, rfl⟩ dL_bestGate_16 (jj_le rfl) (jj_le rfl)
    · have lq_x_9 := tt_lo x_9
      have uq_x_9 := tt_hi x_9
      obtain ⟨y_10, ey_10, vy_10⟩ := tt_i2l x_9
      refine jj_i2l (v := y_10) C dL_bestGate_7 ey_10 ?_
      refine jj_last C 0 rfl (vp_in_iff.mpr (by decide)) (g := (vp_updL g0 0 y_10)) rfl rfl dL_bestGate_8 ?_
      refine jj_goto (tgt := 15) C dL_bestGate_9 (by decide) ?_
      refine jj_iconst (v := 0) C dL_bestGate_15 (by decide) ?_
      exact jj_iret C ⟨[_], pl_1, rfl, Kd, (tt_ex.refl _), hok_2, (hr_3.sub (by decide)), (hfa9.sub (by decide)), _, (0 : Int32), rfl, rfl⟩ dL_bestGate_16 (jj_le rfl) (jj_le rfl)

set_option maxHeartbeats 4000000 in
set_option maxRecDepth 100000 in
theorem lm_breakEven {l : Launch} (hl : l.stackTraces = false) (D : va_G) (cA : Nat → ClassId) (ak : (Nat → Nat) × (Nat → Nat)) {Kd : Nat → Nat} (h0 ho : Nat) (p1 : Int32) (g0 : Nat → Int64) (hk0 : Kd h0 = 15) {pl0 : va_W} (hok : tt_ok tt_tk cA Kd pl0) : jj_M l D cA ak yL_breakEven (.codeWith yL_breakEven cL_breakEven 4 (some .int) [(0, 9, 12, 25), (0, 9, 15, 96)]) 9 150 2 12 ([(ho, .inl (cA 2, 1, .inr (.inl g0)))] ++ pl0) [.ref h0, .int p1, .ref ho] (tt_O (fun rx pl1 r => ∃ K1 : Nat → Nat, tt_ex Kd K1 ∧ tt_ok tt_tk cA K1 pl1 ∧ tt_fr Kd [] pl0 pl1 ∧ tt_fa Kd [] pl0 pl1 ∧ ∃ (g1 : Nat → Int64) (v : Int32), rx = [(ho, .inl (cA 2, 1, .inr (.inl g1)))] ∧ r = some (.int v))) (tt_OX (fun _ _ _ => False)) := by
  refine jj_startW hl (by decide) jw_1c01a1aed3 (jj_le rfl) ?_
  intro p e s m args below meth c A hargs hA C htab hmn
  have lp1 := tt_lo p1
  have up1 := tt_hi p1
  refine jj_aload_n C dL_breakEven_0 rfl ?_
  refine jj_iconst (v := 0) C dL_breakEven_1 (by decide) ?_
  refine jj_aload_n C dL_breakEven_2 rfl ?_
  refine jj_iload_n C dL_breakEven_3 rfl ?_
  obtain ⟨qc, gs, hqc⟩ := tt_recv (cx := []) hok hk0 (by decide) rfl
  refine tt_callV (rest := [.int 0, .ref ho]) C (tc_X10_breakEven_1 hl D cA ak h0 p1 hk0 hok) [] [0] rfl rfl (by decide) (by decide) (by decide) qc hqc rfl rfl jw_a155918313 jw_1cfd0d79e1 jw_b6ba38d4d1 jw_6f6d707074 jw_0a8c1a0f57 jn_X10_breakEven rfl (jj_le rfl) (jj_le rfl) (jj_le rfl) (jj_le rfl) (jj_le rfl) dL_breakEven_4 rfl (fun E rx pl_1 X_5 => ?_) (fun rx pl_1 r O_4 => ?_)
  · obtain ⟨rfl, hok_2, hr_3, hfa9, hE⟩ := X_5
    rcases hE with rfl | rfl
    · refine jj_catch C [] (⟨0, 9, 12, 25⟩ : ExceptionTableEntry) [(⟨0, 9, 15, 96⟩ : ExceptionTableEntry)] (htab.trans rfl) (fun z hz => by cases hz) (by decide) (by decide) jw_3b9ee68727 (by decide +kernel) (fun q9 => ?_)
      refine jj_astore_n C dL_breakEven_12 (by decide) rfl ?_
      refine jj_iconst (v := 1) C dL_breakEven_13 (by decide) ?_
      exact jj_iret C ⟨[_], pl_1, rfl, Kd, (tt_ex.refl _), hok_2, (hr_3.sub (by decide)), (hfa9.sub (by decide)), _, (1 : Int32), rfl, rfl⟩ dL_breakEven_14 (jj_le rfl) (jj_le rfl)
    · refine jj_catch C [(⟨0, 9, 12, 25⟩ : ExceptionTableEntry)] (⟨0, 9, 15, 96⟩ : ExceptionTableEntry) [] (htab.trans rfl) (fun z hz => by rcases List.mem_cons.mp hz with rfl | hz; exact Or.inr ⟨by decide, "java/lang/IndexOutOfBoundsException", jw_3b9ee68727, by decide +kernel⟩; cases hz) (by decide) (by decide) jw_a526bc76ac (by decide +kernel) (fun q9 => ?_)
      refine jj_astore_n C dL_breakEven_15 (by decide) rfl ?_
      refine jj_iconst (v := 2) C dL_breakEven_16 (by decide) ?_
      exact jj_iret C ⟨[_], pl_1, rfl, Kd, (tt_ex.refl _), hok_2, (hr_3.sub (by decide)), (hfa9.sub (by decide)), _, (2 : Int32), rfl, rfl⟩ dL_breakEven_17 (jj_le rfl) (jj_le rfl)
  · obtain ⟨rfl, hok_2, hr_3, hfa9, hR_8⟩ := O_4
    obtain ⟨x_9, -, -, rfl⟩ := hR_8
    have lq_x_9 := tt_lo x_9
    have uq_x_9 := tt_hi x_9
    obtain ⟨y_10, ey_10, vy_10⟩ := tt_i2l x_9
    refine jj_i2l (v := y_10) C dL_breakEven_7 ey_10 ?_
    refine jj_last C 0 rfl (vp_in_iff.mpr (by decide)) (g := (vp_updL g0 0 y_10)) rfl rfl dL_breakEven_8 ?_
    refine jj_goto (tgt := 18) C dL_breakEven_9 (by decide) ?_
    refine jj_iconst (v := 0) C dL_breakEven_18 (by decide) ?_
    exact jj_iret C ⟨[_], pl_1, rfl, Kd, (tt_ex.refl _), hok_2, (hr_3.sub (by decide)), (hfa9.sub (by decide)), _, (0 : Int32), rfl, rfl⟩ dL_breakEven_19 (jj_le rfl) (jj_le rfl)

set_option maxHeartbeats 4000000 in
set_option maxRecDepth 100000 in
theorem lm_count {l : Launch} (hl : l.stackTraces = false) (D : va_G) (cA : Nat → ClassId) (ak : (Nat → Nat) × (Nat → Nat)) {Kd : Nat → Nat} (h0 ho : Nat) (p1 : Int32) (g0 : Nat → Int64) (hk0 : Kd h0 = 15) {pl0 : va_W} (hok : tt_ok tt_tk cA Kd pl0) : jj_M l D cA ak yL_count (.codeWith yL_count cL_count 4 (some .int) [(0, 9, 12, 19)]) 7 103 1 6 ([(ho, .inl (cA 2, 1, .inr (.inl g0)))] ++ pl0) [.ref h0, .int p1, .ref ho] (tt_O (fun rx pl1 r => ∃ K1 : Nat → Nat, tt_ex Kd K1 ∧ tt_ok tt_tk cA K1 pl1 ∧ tt_fr Kd [] pl0 pl1 ∧ tt_fa Kd [] pl0 pl1 ∧ ∃ (g1 : Nat → Int64) (v : Int32), rx = [(ho, .inl (cA 2, 1, .inr (.inl g1)))] ∧ r = some (.int v))) (tt_OX (fun _ _ _ => False)) := by
  refine jj_startW hl (by decide) jw_c8f9bf07c6 (jj_le rfl) ?_
  intro p e s m args below meth c A hargs hA C htab hmn
  have lp1 := tt_lo p1
  have up1 := tt_hi p1
  refine jj_aload_n C dL_count_0 rfl ?_
  refine jj_iconst (v := 0) C dL_count_1 (by decide) ?_
  refine jj_aload_n C dL_count_2 rfl ?_
  refine jj_iload_n C dL_count_3 rfl ?_
  obtain ⟨qc, gs, hqc⟩ := tt_recv (cx := []) hok hk0 (by decide) rfl
  refine tt_callV (rest := [.int 0, .ref ho]) C (tc_X10_count_1 hl D cA ak h0 p1 hk0 hok) [] [0] rfl rfl (by decide) (by decide) (by decide) qc hqc rfl rfl jw_03372242d5 jw_c46f300717 jw_db0f7fdbc9 jw_6f6d707074 jw_a49c92decf jn_X10_count rfl (jj_le rfl) (jj_le rfl) (jj_le rfl) (jj_le rfl) (jj_le rfl) dL_count_4 rfl (fun E rx pl_1 X_5 => ?_) (fun rx pl_1 r O_4 => ?_)
  · obtain ⟨rfl, hok_2, hr_3, hfa9, hE⟩ := X_5
    obtain rfl := hE
    refine jj_catch C [] (⟨0, 9, 12, 19⟩ : ExceptionTableEntry) [] (htab.trans rfl) (fun z hz => by cases hz) (by decide) (by decide) jw_bcdf9cc9d5 (by decide +kernel) (fun q9 => ?_)
    refine jj_astore_n C dL_count_12 (by decide) rfl ?_
    refine jj_iconst (v := 1) C dL_count_13 (by decide) ?_
    exact jj_iret C ⟨[_], pl_1, rfl, Kd, (tt_ex.refl _), hok_2, (hr_3.sub (by decide)), (hfa9.sub (by decide)), _, (1 : Int32), rfl, rfl⟩ dL_count_14 (jj_le rfl) (jj_le rfl)
  · obtain ⟨rfl, hok_2, hr_3, hfa9, hR_8⟩ := O_4
    obtain ⟨x_9, -, -, rfl⟩ := hR_8
    have lq_x_9 := tt_lo x_9
    have uq_x_9 := tt_hi x_9
    obtain ⟨y_10, ey_10, vy_10⟩ := tt_i2l x_9
    refine jj_i2l (v := y_10) C dL_count_7 ey_10 ?_
    refine jj_last C 0 rfl (vp_in_iff.mpr (by decide)) (g := (vp_updL g0 0 y_10)) rfl rfl dL_count_8 ?_
    refine jj_goto (tgt := 15) C dL_count_9 (by decide) ?_
    refine jj_iconst (v := 0) C dL_count_15 (by decide) ?_
    exact jj_iret C ⟨[_], pl_1, rfl, Kd, (tt_ex.refl _), hok_2, (hr_3.sub (by decide)), (hfa9.sub (by decide)), _, (0 : Int32), rfl, rfl⟩ dL_count_16 (jj_le rfl) (jj_le rfl)

set_option maxHeartbeats 4000000 in
set_option maxRecDepth 100000 in
theorem lm_daysUntil {l : Launch} (hl : l.stackTraces = false) (D : va_G) (cA : Nat → ClassId) (ak : (Nat → Nat) × (Nat → Nat)) {Kd : Nat → Nat} (h0 ho : Nat) (p1 : Int64) (g0 : Nat → Int64) (hk0 : Kd h0 = 15) {pl0 : va_W} (hok : tt_ok tt_tk cA Kd pl0) : jj_M l D cA ak yL_daysUntil (.codeWith yL_daysUntil cL_daysUntil 5 (some .int) [(0, 9, 12, 19)]) 7 105 1 6 ([(ho, .inl (cA 2, 1, .inr (.inl g0)))] ++ pl0) [.ref h0, .long p1, .ref ho] (tt_O (fun rx pl1 r => ∃ K1 : Nat → Nat, tt_ex Kd K1 ∧ tt_ok tt_tk cA K1 pl1 ∧ tt_fr Kd [(1, 0), (1, 1), (1, 2), (1, 3), (1, 4), (1, 5), (1, 6), (1, 7), (1, 8), (1, 9), (2, 0), (2, 1), (2, 2), (2, 3), (2, 4), (3, 0), (3, 1), (3, 2), (3, 3), (3, 4), (3, 5), (4, 0), (4, 1), (4, 2), (4, 3), (4, 4)] pl0 pl1 ∧ tt_fa Kd [5] pl0 pl1 ∧ ∃ (g1 : Nat → Int64) (v : Int32), rx = [(ho, .inl (cA 2, 1, .inr (.inl g1)))] ∧ r = some (.int v))) (tt_OX (fun _ _ _ => False)) := by
  refine jj_startW hl (by decide) jw_20534ee4a9 (jj_le rfl) ?_
  intro p e s m args below meth c A hargs hA C htab hmn
  refine jj_aload_n C dL_daysUntil_0 rfl ?_
  refine jj_iconst (v := 0) C dL_daysUntil_1 (by decide) ?_
  refine jj_aload_n C dL_daysUntil_2 rfl ?_
  refine jj_lload_n C dL_daysUntil_3 rfl ?_
  obtain ⟨qc, gs, hqc⟩ := tt_recv (cx := []) hok hk0 (by decide) rfl
  refine tt_callV (rest := [.int 0, .ref ho]) C (tc_X10_daysUntil_1 hl D cA ak h0 p1 hk0 hok) [] [0] rfl rfl (by decide) (by decide) (by decide) qc hqc rfl rfl jw_cc384dec92 jw_4ea3db5de1 jw_a8635e0fca jw_6f6d707074 jw_1cad7a53db jn_X10_daysUntil rfl (jj_le rfl) (jj_le rfl) (jj_le rfl) (jj_le rfl) (jj_le rfl) dL_daysUntil_4 rfl (fun E rx pl_1 X_5 => ?_) (fun rx pl_1 r O_4 => ?_)
  · obtain ⟨rfl, hok_2, hr_3, hfa9, hE⟩ := X_5
    obtain rfl := hE
    refine jj_catch C [] (⟨0, 9, 12, 19⟩ : ExceptionTableEntry) [] (htab.trans rfl) (fun z hz => by cases hz) (by decide) (by decide) jw_bcdf9cc9d5 (by decide +kernel) (fun q9 => ?_)
    refine jj_astore C dL_daysUntil_12 (by decide) rfl ?_
    refine jj_iconst (v := 1) C dL_daysUntil_14 (by decide) ?_
    exact jj_iret C ⟨[_], pl_1, rfl, Kd, (tt_ex.refl _), hok_2, (hr_3.sub (by decide)), (hfa9.sub (by decide)), _, (1 : Int32), rfl, rfl⟩ dL_daysUntil_15 (jj_le rfl) (jj_le rfl)
  · obtain ⟨rfl, hok_2, hr_3, hfa9, hR_8⟩ := O_4
    rcases hR_8 with rfl | ⟨x_9, -, -, rfl⟩
    · refine jj_i2l (v := (-1)) C dL_daysUntil_7 (by decide) ?_
      refine jj_last C 0 rfl (vp_in_iff.mpr (by decide)) (g := (vp_updL g0 0 ((-1) : Int64))) rfl rfl dL_daysUntil_8 ?_
      refine jj_goto (tgt := 16) C dL_daysUntil_9 (by decide) ?_
      refine jj_iconst (v := 0) C dL_daysUntil_16 (by decide) ?_
      exact jj_iret C ⟨[_], pl_1, rfl, Kd, (tt_ex.refl _), hok_2, (hr_3.sub (by decide)), (hfa9.sub (by decide)), _, (0 : Int32), rfl, rfl⟩ dL_daysUntil_17 (jj_le rfl) (jj_le rfl)
    · have lq_x_9 := tt_lo x_9
      have uq_x_9 := tt_hi x_9
      obtain ⟨y_10, ey_10, vy_10⟩ := tt_i2l x_9
      refine jj_i2l (v := y_10) C dL_daysUntil_7 ey_10 ?_
      refine jj_last C 0 rfl (vp_in_iff.mpr (by decide)) (g := (vp_updL g0 0 y_10)) rfl rfl dL_daysUntil_8 ?_
      refine jj_goto (tgt := 16) C dL_daysUntil_9 (by decide) ?_
      refine jj_iconst (v := 0) C dL_daysUntil_16 (by decide) ?_
      exact jj_iret C ⟨[_], pl_1, rfl, Kd, (tt_ex.refl _), hok_2, (hr_3.sub (by decide)), (hfa9.sub (by decide)), _, (0 : Int32), rfl, rfl⟩ dL_daysUntil_17 (jj_le rfl) (jj_le rfl)

set_option maxHeartbeats 4000000 in
set_option maxRecDepth 100000 in
theorem lm_dealsUntilDone {l : Launch} (hl : l.stackTraces = false) (D : va_G) (cA : Nat → ClassId) (ak : (Nat → Nat) × (Nat → Nat)) {Kd : Nat → Nat} (h0 ho : Nat) (p1 : Int32) (g0 : Nat → Int64) (hk0 : Kd h0 = 15) {pl0 : va_W} (hok : tt_ok tt_tk cA Kd pl0) : jj_M l D cA ak yL_dealsUntilDone (.codeWith yL_dealsUntilDone cL_dealsUntilDone 4 (some .int) [(0, 9, 12, 25)]) 9 146 1 6 ([(ho, .inl (cA 2, 1, .inr (.inl g0)))] ++ pl0) [.ref h0, .int p1, .ref ho] (tt_O (fun rx pl1 r => ∃ K1 : Nat → Nat, tt_ex Kd K1 ∧ tt_ok tt_tk cA K1 pl1 ∧ tt_fr Kd [(1, 0), (1, 1), (1, 2), (1, 3), (1, 4), (1, 5), (1, 6), (1, 7), (1, 8), (1, 9), (2, 0), (2, 1), (2, 2), (2, 3), (2, 4), (3, 0), (3, 1), (3, 2), (3, 3), (3, 4), (3, 5), (4, 0), (4, 1), (4, 2), (4, 3), (4, 4), (9, 1), (9, 2), (9, 3), (9, 4), (9, 5)] pl0 pl1 ∧ tt_fa Kd [5] pl0 pl1 ∧ ∃ (g1 : Nat → Int64) (v : Int32), rx = [(ho, .inl (cA 2, 1, .inr (.inl g1)))] ∧ r = some (.int v))) (tt_OX (fun _ _ _ => False)) := by
  refine jj_startW hl (by decide) jw_4ddfc04859 (jj_le rfl) ?_
  intro p e s m args below meth c A hargs hA C htab hmn
  have lp1 := tt_lo p1
  have up1 := tt_hi p1
  refine jj_aload_n C dL_dealsUntilDone_0 rfl ?_
  refine jj_iconst (v := 0) C dL_dealsUntilDone_1 (by decide) ?_
  refine jj_aload_n C dL_dealsUntilDone_2 rfl ?_
  refine jj_iload_n C dL_dealsUntilDone_3 rfl ?_
  obtain ⟨qc, gs, hqc⟩ := tt_recv (cx := []) hok hk0 (by decide) rfl
  refine tt_callV (rest := [.int 0, .ref ho]) C (tc_X10_dealsUntilDone_1 hl D cA ak h0 p1 hk0 hok) [] [0] rfl rfl (by decide) (by decide) (by decide) qc hqc rfl rfl jw_d1bd3cae24 jw_0337150930 jw_0a8514ec66 jw_6f6d707074 jw_2b2f2630e6 jn_X10_dealsUntilDone rfl (jj_le rfl) (jj_le rfl) (jj_le rfl) (jj_le rfl) (jj_le rfl) dL_dealsUntilDone_4 rfl (fun E rx pl_1 X_5 => ?_) (fun rx pl_1 r O_4 => ?_)
  · obtain ⟨rfl, hok_2, hr_3, hfa9, hE⟩ := X_5
    obtain rfl := hE
    refine jj_catch C [] (⟨0, 9, 12, 25⟩ : ExceptionTableEntry) [] (htab.trans rfl) (fun z hz => by cases hz) (by decide) (by decide) jw_3b9ee68727 (by decide +kernel) (fun q9 => ?_)
    refine jj_astore_n C dL_dealsUntilDone_12 (by decide) rfl ?_
    refine jj_iconst (v := 1) C dL_dealsUntilDone_13 (by decide) ?_
    exact jj_iret C ⟨[_], pl_1, rfl, Kd, (tt_ex.refl _), hok_2, (hr_3.sub (by decide)), (hfa9.sub (by decide)), _, (1 : Int32), rfl, rfl⟩ dL_dealsUntilDone_14 (jj_le rfl) (jj_le rfl)
  · obtain ⟨rfl, hok_2, hr_3, hfa9, hR_8⟩ := O_4
    rcases hR_8 with ⟨-, -, rfl⟩ | ⟨x_9, -, -, -, -, rfl⟩
    · refine jj_i2l (v := (-1)) C dL_dealsUntilDone_7 (by decide) ?_
      refine jj_last C 0 rfl (vp_in_iff.mpr (by decide)) (g := (vp_updL g0 0 ((-1) : Int64))) rfl rfl dL_dealsUntilDone_8 ?_
      refine jj_goto (tgt := 15) C dL_dealsUntilDone_9 (by decide) ?_
      refine jj_iconst (v := 0) C dL_dealsUntilDone_15 (by decide) ?_
      exact jj_iret C ⟨[_], pl_1, rfl, Kd, (tt_ex.refl _), hok_2, (hr_3.sub (by decide)), (hfa9.sub (by decide)), _, (0 : Int32), rfl, rfl⟩ dL_dealsUntilDone_16 (jj_le rfl) (jj_le rfl)
    · have lq_x_9 := tt_lo x_9
      have uq_x_9 := tt_hi x_9
      obtain ⟨y_10, ey_10, vy_10⟩ := tt_i2l x_9
      refine jj_i2l (v := y_10) C dL_dealsUntilDone_7 ey_10 ?_
      refine jj_last C 0 rfl (vp_in_iff.mpr (by decide)) (g := (vp_updL g0 0 y_10)) rfl rfl dL_dealsUntilDone_8 ?_
      refine jj_goto (tgt := 15) C dL_dealsUntilDone_9 (by decide) ?_
      refine jj_iconst (v := 0) C dL_dealsUntilDone_15 (by decide) ?_
      exact jj_iret C ⟨[_], pl_1, rfl, Kd, (tt_ex.refl _), hok_2, (hr_3.sub (by decide)), (hfa9.sub (by decide)), _, (0 : Int32), rfl, rfl⟩ dL_dealsUntilDone_16 (jj_le rfl) (jj_le rfl)

set_option maxHeartbeats 4000000 in
set_option maxRecDepth 100000 in
theorem lm_earn {l : Launch} (hl : l.stackTraces = false) (D : va_G) (cA : Nat → ClassId) (ak : (Nat → Nat) × (Nat → Nat)) {Kd : Nat → Nat} (h0 ho : Nat) (p1 : Int32) (g0 : Nat → Int64) (hk0 : Kd h0 = 15) {pl0 : va_W} (hok : tt_ok tt_tk cA Kd pl0) : jj_M l D cA ak yL_earn (.codeWith yL_earn cL_earn 4 (some .int) [(0, 8, 11, 19), (0, 8, 14, 13)]) 8 123 63 408 ([(ho, .inl (cA 2, 1, .inr (.inl g0)))] ++ pl0) [.ref h0, .int p1, .ref ho] (tt_O (fun rx pl1 r => ∃ K1 : Nat → Nat, tt_ex Kd K1 ∧ tt_ok tt_tk cA K1 pl1 ∧ tt_fr Kd [(1, 0), (1, 1), (1, 2), (1, 3), (1, 4), (1, 5), (1, 6), (1, 7), (1, 8), (1, 9), (2, 0), (2, 1), (2, 2), (2, 3), (2, 4), (3, 0), (3, 1), (3, 2), (3, 3), (3, 4), (3, 5), (4, 0), (4, 1), (4, 2), (4, 3), (4, 4), (15, 7), (15, 8)] pl0 pl1 ∧ tt_fa Kd [5] pl0 pl1 ∧ ∃ (g1 : Nat → Int64) (v : Int32), rx = [(ho, .inl (cA 2, 1, .inr (.inl g1)))] ∧ r = some (.int v))) (tt_OX (fun _ _ _ => False)) := by
  refine jj_startW hl (by decide) jw_dc281b9698 (jj_le rfl) ?_
  intro p e s m args below meth c A hargs hA C htab hmn
  have lp1 := tt_lo p1
  have up1 := tt_hi p1
  refine jj_aload_n C dL_earn_0 rfl ?_
  refine jj_iconst (v := 0) C dL_earn_1 (by decide) ?_
  refine jj_aload_n C dL_earn_2 rfl ?_
  refine jj_iload_n C dL_earn_3 rfl ?_
  obtain ⟨qc, gs, hqc⟩ := tt_recv (cx := []) hok hk0 (by decide) rfl
  refine tt_callV (rest := [.int 0, .ref ho]) C (tc_X10_earn_1 hl D cA ak h0 p1 hk0 hok) [] [0] rfl rfl (by decide) (by decide) (by decide) qc hqc rfl rfl jw_907ae82a35 jw_0de3073e58 jw_1aa669730b jw_6f6d707074 jw_66bc37c428 jn_X10_earn rfl (jj_le rfl) (jj_le rfl) (jj_le rfl) (jj_le rfl) (jj_le rfl) dL_earn_4 rfl (fun E rx pl_1 X_5 => ?_) (fun rx pl_1 r O_4 => ?_)
  · obtain ⟨rfl, hok_2, hr_3, hfa9, hE⟩ := X_5
    rcases hE with rfl | rfl
    · refine jj_catch C [] (⟨0, 8, 11, 19⟩ : ExceptionTableEntry) [(⟨0, 8, 14, 13⟩ : ExceptionTableEntry)] (htab.trans rfl) (fun z hz => by cases hz) (by decide) (by decide) jw_bcdf9cc9d5 (by decide +kernel) (fun q9 => ?_)
      refine jj_astore_n C dL_earn_11 (by decide) rfl ?_
      refine jj_iconst (v := 1) C dL_earn_12 (by decide) ?_
      exact jj_iret C ⟨[_], pl_1, rfl, Kd, (tt_ex.refl _), hok_2, (hr_3.sub (by decide)), (hfa9.sub (by decide)), _, (1 : Int32), rfl, rfl⟩ dL_earn_13 (jj_le rfl) (jj_le rfl)
    · refine jj_catch C [(⟨0, 8, 11, 19⟩ : ExceptionTableEntry)] (⟨0, 8, 14, 13⟩ : ExceptionTableEntry) [] (htab.trans rfl) (fun z hz => by rcases List.mem_cons.mp hz with rfl | hz; exact Or.inr ⟨by decide, "java/lang/IllegalArgumentException", jw_bcdf9cc9d5, by decide +kernel⟩; cases hz) (by decide) (by decide) jw_98767da53c (by decide +kernel) (fun q9 => ?_)
      refine jj_astore_n C dL_earn_14 (by decide) rfl ?_
      refine jj_iconst (v := 2) C dL_earn_15 (by decide) ?_
      exact jj_iret C ⟨[_], pl_1, rfl, Kd, (tt_ex.refl _), hok_2, (hr_3.sub (by decide)), (hfa9.sub (by decide)), _, (2 : Int32), rfl, rfl⟩ dL_earn_16 (jj_le rfl) (jj_le rfl)
  · obtain ⟨K_6, hx_7, rfl, hok_2, hr_3, hfa9, hR_8⟩ := O_4
    obtain ⟨y_9, -, -, rfl⟩ := hR_8
    refine jj_last C 0 rfl (vp_in_iff.mpr (by decide)) (g := (vp_updL g0 0 y_9)) rfl rfl dL_earn_7 ?_
    refine jj_goto (tgt := 17) C dL_earn_8 (by decide) ?_
    refine jj_iconst (v := 0) C dL_earn_17 (by decide) ?_
    exact jj_iret C ⟨[_], pl_1, rfl, K_6, hx_7, hok_2, (hr_3.sub (by decide)), (hfa9.sub (by decide)), _, (0 : Int32), rfl, rfl⟩ dL_earn_18 (jj_le rfl) (jj_le rfl)

set_option maxHeartbeats 4000000 in
set_option maxRecDepth 100000 in
theorem lm_feesIf {l : Launch} (hl : l.stackTraces = false) (D : va_G) (cA : Nat → ClassId) (ak : (Nat → Nat) × (Nat → Nat)) {Kd : Nat → Nat} (h0 ho : Nat) (p1 : Int32) (g0 : Nat → Int64) (hk0 : Kd h0 = 15) {pl0 : va_W} (hok : tt_ok tt_tk cA Kd pl0) : jj_M l D cA ak yL_feesIf (.codeWith yL_feesIf cL_feesIf 4 (some .int) [(0, 8, 11, 19)]) 7 106 1 6 ([(ho, .inl (cA 2, 1, .inr (.inl g0)))] ++ pl0) [.ref h0, .int p1, .ref ho] (tt_O (fun rx pl1 r => ∃ K1 : Nat → Nat, tt_ex Kd K1 ∧ tt_ok tt_tk cA K1 pl1 ∧ tt_fr Kd [(1, 0), (1, 1), (1, 2), (1, 3), (1, 4), (1, 5), (1, 6), (1, 7), (1, 8), (1, 9), (2, 0), (2, 1), (2, 2), (2, 3), (2, 4), (3, 0), (3, 1), (3, 2), (3, 3), (3, 4), (3, 5), (4, 0), (4, 1), (4, 2), (4, 3), (4, 4)] pl0 pl1 ∧ tt_fa Kd [5] pl0 pl1 ∧ ∃ (g1 : Nat → Int64) (v : Int32), rx = [(ho, .inl (cA 2, 1, .inr (.inl g1)))] ∧ r = some (.int v))) (tt_OX (fun _ _ _ => False)) := by
  refine jj_startW hl (by decide) jw_5cefa823e7 (jj_le rfl) ?_
  intro p e s m args below meth c A hargs hA C htab hmn
  have lp1 := tt_lo p1
  have up1 := tt_hi p1
  refine jj_aload_n C dL_feesIf_0 rfl ?_
  refine jj_iconst (v := 0) C dL_feesIf_1 (by decide) ?_
  refine jj_aload_n C dL_feesIf_2 rfl ?_
  refine jj_iload_n C dL_feesIf_3 rfl ?_
  obtain ⟨qc, gs, hqc⟩ := tt_recv (cx := []) hok hk0 (by decide) rfl
  refine tt_callV (rest := [.int 0, .ref ho]) C (tc_X10_feesIf_1 hl D cA ak h0 p1 hk0 hok) [] [0] rfl rfl (by decide) (by decide) (by decide) qc hqc rfl rfl jw_39f26fe67e jw_7b1b85a6ba jw_07ffb7e71d jw_6f6d707074 jw_95d9388292 jn_X10_feesIf rfl (jj_le rfl) (jj_le rfl) (jj_le rfl) (jj_le rfl) (jj_le rfl) dL_feesIf_4 rfl (fun E rx pl_1 X_5 => ?_) (fun rx pl_1 r O_4 => ?_)
  · obtain ⟨rfl, hok_2, hr_3, hfa9, hE⟩ := X_5
    obtain rfl := hE
    refine jj_catch C [] (⟨0, 8, 11, 19⟩ : ExceptionTableEntry) [] (htab.trans rfl) (fun z hz => by cases hz) (by decide) (by decide) jw_bcdf9cc9d5 (by decide +kernel) (fun q9 => ?_)
    refine jj_astore_n C dL_feesIf_11 (by decide) rfl ?_
    refine jj_iconst (v := 1) C dL_feesIf_12 (by decide) ?_
    exact jj_iret C ⟨[_], pl_1, rfl, Kd, (tt_ex.refl _), hok_2, (hr_3.sub (by decide)), (hfa9.sub (by decide)), _, (1 : Int32), rfl, rfl⟩ dL_feesIf_13 (jj_le rfl) (jj_le rfl)
  · obtain ⟨rfl, hok_2, hr_3, hfa9, hR_8⟩ := O_4
    obtain ⟨y_9, -, -, rfl⟩ := hR_8
    refine jj_last C 0 rfl (vp_in_iff.mpr (by decide)) (g := (vp_updL g0 0 y_9)) rfl rfl dL_feesIf_7 ?_
    refine jj_goto (tgt := 14) C dL_feesIf_8 (by decide) ?_
    refine jj_iconst (v := 0) C dL_feesIf_14 (by decide) ?_
    exact jj_iret C ⟨[_], pl_1, rfl, Kd, (tt_ex.refl _), hok_2, (hr_3.sub (by decide)), (hfa9.sub (by decide)), _, (0 : Int32), rfl, rfl⟩ dL_feesIf_15 (jj_le rfl) (jj_le rfl)

set_option maxHeartbeats 4000000 in
set_option maxRecDepth 100000 in
theorem lm_holding {l : Launch} (hl : l.stackTraces = false) (D : va_G) (cA : Nat → ClassId) (ak : (Nat → Nat) × (Nat → Nat)) {Kd : Nat → Nat} (h0 ho : Nat) (p1 : Int32) (p2 : Int32) (g0 : Nat → Int64) (hk0 : Kd h0 = 15) {pl0 : va_W} (hok : tt_ok tt_tk cA Kd pl0) : jj_M l D cA ak yL_holding (.codeWith yL_holding cL_holding 5 (some .int) [(0, 9, 12, 25)]) 9 146 2 12 ([(ho, .inl (cA 2, 1, .inr (.inl g0)))] ++ pl0) [.ref h0, .int p1, .int p2, .ref ho] (tt_O (fun rx pl1 r => ∃ K1 : Nat → Nat, tt_ex Kd K1 ∧ tt_ok tt_tk cA K1 pl1 ∧ tt_fr Kd [] pl0 pl1 ∧ tt_fa Kd [] pl0 pl1 ∧ ∃ (g1 : Nat → Int64) (v : Int32), rx = [(ho, .inl (cA 2, 1, .inr (.inl g1)))] ∧ r = some (.int v))) (tt_OX (fun _ _ _ => False)) := by
  refine jj_startW hl (by decide) jw_92c9fb3d9d (jj_le rfl) ?_
  intro p e s m args below meth c A hargs hA C htab hmn
  have lp1 := tt_lo p1
  have up1 := tt_hi p1
  have lp2 := tt_lo p2
  have up2 := tt_hi p2
  refine jj_aload_n C dL_holding_0 rfl ?_
  refine jj_iconst (v := 0) C dL_holding_1 (by decide) ?_
  refine jj_aload_n C dL_holding_2 rfl ?_
  refine jj_iload_n C dL_holding_3 rfl ?_
  refine jj_iload_n C dL_holding_4 rfl ?_
  obtain ⟨qc, gs, hqc⟩ := tt_recv (cx := []) hok hk0 (by decide) rfl
  refine tt_callV (rest := [.int 0, .ref ho]) C (tc_X10_holding_1 hl D cA ak h0 p1 p2 hk0 hok) [] [0] rfl rfl (by decide) (by decide) (by decide) qc hqc rfl rfl jw_233b02895b jw_dea33d6912 jw_6252a88d8c jw_6f6d707074 jw_781bc3d7b6 jn_X10_holding rfl (jj_le rfl) (jj_le rfl) (jj_le rfl) (jj_le rfl) (jj_le rfl) dL_holding_5 rfl (fun E rx pl_1 X_5 => ?_) (fun rx pl_1 r O_4 => ?_)
  · obtain ⟨rfl, hok_2, hr_3, hfa9, hE⟩ := X_5
    obtain rfl := hE
    refine jj_catch C [] (⟨0, 9, 12, 25⟩ : ExceptionTableEntry) [] (htab.trans rfl) (fun z hz => by cases hz) (by decide) (by decide) jw_3b9ee68727 (by decide +kernel) (fun q9 => ?_)
    refine jj_astore C dL_holding_12 (by decide) rfl ?_
    refine jj_iconst (v := 1) C dL_holding_14 (by decide) ?_
    exact jj_iret C ⟨[_], pl_1, rfl, Kd, (tt_ex.refl _), hok_2, (hr_3.sub (by decide)), (hfa9.sub (by decide)), _, (1 : Int32), rfl, rfl⟩ dL_holding_15 (jj_le rfl) (jj_le rfl)
  · obtain ⟨rfl, hok_2, hr_3, hfa9, hR_8⟩ := O_4
    obtain ⟨y_9, -, -, rfl⟩ := hR_8
    refine jj_last C 0 rfl (vp_in_iff.mpr (by decide)) (g := (vp_updL g0 0 y_9)) rfl rfl dL_holding_8 ?_
    refine jj_goto (tgt := 16) C dL_holding_9 (by decide) ?_
    refine jj_iconst (v := 0) C dL_holding_16 (by decide) ?_
    exact jj_iret C ⟨[_], pl_1, rfl, Kd, (tt_ex.refl _), hok_2, (hr_3.sub (by decide)), (hfa9.sub (by decide)), _, (0 : Int32), rfl, rfl⟩ dL_holding_17 (jj_le rfl) (jj_le rfl)

set_option maxHeartbeats 4000000 in
set_option maxRecDepth 100000 in
theorem lm_lot {l : Launch} (hl : l.stackTraces = false) (D : va_G) (cA : Nat → ClassId) (ak : (Nat → Nat) × (Nat → Nat)) {Kd : Nat → Nat} (h0 ho : Nat) (p1 : Int32) (p2 : Int32) (g0 : Nat → Int64) (hk0 : Kd h0 = 15) {pl0 : va_W} (hok : tt_ok tt_tk cA Kd pl0) : jj_M l D cA ak yL_lot (.codeWith yL_lot cL_lot 5 (some .int) [(0, 9, 12, 25), (0, 9, 16, 19)]) 7 105 1 6 ([(ho, .inl (cA 2, 1, .inr (.inl g0)))] ++ pl0) [.ref h0, .int p1, .int p2, .ref ho] (tt_O (fun rx pl1 r => ∃ K1 : Nat → Nat, tt_ex Kd K1 ∧ tt_ok tt_tk cA K1 pl1 ∧ tt_fr Kd [] pl0 pl1 ∧ tt_fa Kd [] pl0 pl1 ∧ ∃ (g1 : Nat → Int64) (v : Int32), rx = [(ho, .inl (cA 2, 1, .inr (.inl g1)))] ∧ r = some (.int v))) (tt_OX (fun _ _ _ => False)) := by
  refine jj_startW hl (by decide) jw_739cbf6537 (jj_le rfl) ?_
  intro p e s m args below meth c A hargs hA C htab hmn
  have lp1 := tt_lo p1
  have up1 := tt_hi p1
  have lp2 := tt_lo p2
  have up2 := tt_hi p2
  refine jj_aload_n C dL_lot_0 rfl ?_
  refine jj_iconst (v := 0) C dL_lot_1 (by decide) ?_
  refine jj_aload_n C dL_lot_2 rfl ?_
  refine jj_iload_n C dL_lot_3 rfl ?_
  refine jj_iload_n C dL_lot_4 rfl ?_
  obtain ⟨qc, gs, hqc⟩ := tt_recv (cx := []) hok hk0 (by decide) rfl
  refine tt_callV (rest := [.int 0, .ref ho]) C (tc_X10_lot_1 hl D cA ak h0 p1 p2 hk0 hok) [] [0] rfl rfl (by decide) (by decide) (by decide) qc hqc rfl rfl jw_6f1be7b380 jw_47e6670d88 jw_3de98e0319 jw_6f6d707074 jw_dd46fce54b jn_X10_lot rfl (jj_le rfl) (jj_le rfl) (jj_le rfl) (jj_le rfl) (jj_le rfl) dL_lot_5 rfl (fun E rx pl_1 X_5 => ?_) (fun rx pl_1 r O_4 => ?_)
  · obtain ⟨rfl, hok_2, hr_3, hfa9, hE⟩ := X_5
    rcases hE with rfl | rfl
    · refine jj_catch C [(⟨0, 9, 12, 25⟩ : ExceptionTableEntry)] (⟨0, 9, 16, 19⟩ : ExceptionTableEntry) [] (htab.trans rfl) (fun z hz => by rcases List.mem_cons.mp hz with rfl | hz; exact Or.inr ⟨by decide, "java/lang/IndexOutOfBoundsException", jw_3b9ee68727, by decide +kernel⟩; cases hz) (by decide) (by decide) jw_bcdf9cc9d5 (by decide +kernel) (fun q9 => ?_)
      refine jj_astore C dL_lot_16 (by decide) rfl ?_
      refine jj_iconst (v := 2) C dL_lot_18 (by decide) ?_
      exact jj_iret C ⟨[_], pl_1, rfl, Kd, (tt_ex.refl _), hok_2, (hr_3.sub (by decide)), (hfa9.sub (by decide)), _, (2 : Int32), rfl, rfl⟩ dL_lot_19 (jj_le rfl) (jj_le rfl)
    · refine jj_catch C [] (⟨0, 9, 12, 25⟩ : ExceptionTableEntry) [(⟨0, 9, 16, 19⟩ : ExceptionTableEntry)] (htab.trans rfl) (fun z hz => by cases hz) (by decide) (by decide) jw_3b9ee68727 (by decide +kernel) (fun q9 => ?_)
      refine jj_astore C dL_lot_12 (by decide) rfl ?_
      refine jj_iconst (v := 1) C dL_lot_14 (by decide) ?_
      exact jj_iret C ⟨[_], pl_1, rfl, Kd, (tt_ex.refl _), hok_2, (hr_3.sub (by decide)), (hfa9.sub (by decide)), _, (1 : Int32), rfl, rfl⟩ dL_lot_15 (jj_le rfl) (jj_le rfl)
  · obtain ⟨rfl, hok_2, hr_3, hfa9, hR_8⟩ := O_4
    obtain ⟨y_9, -, -, rfl⟩ := hR_8
    refine jj_last C 0 rfl (vp_in_iff.mpr (by decide)) (g := (vp_updL g0 0 y_9)) rfl rfl dL_lot_8 ?_
    refine jj_goto (tgt := 20) C dL_lot_9 (by decide) ?_
    refine jj_iconst (v := 0) C dL_lot_20 (by decide) ?_
    exact jj_iret C ⟨[_], pl_1, rfl, Kd, (tt_ex.refl _), hok_2, (hr_3.sub (by decide)), (hfa9.sub (by decide)), _, (0 : Int32), rfl, rfl⟩ dL_lot_21 (jj_le rfl) (jj_le rfl)

set_option maxHeartbeats 4000000 in
set_option maxRecDepth 100000 in
theorem lm_openSeries {l : Launch} (hl : l.stackTraces = false) (D : va_G) (cA : Nat → ClassId) (ak : (Nat → Nat) × (Nat → Nat)) {Kd : Nat → Nat} (h0 ho : Nat) (p1 : Int32) (g0 : Nat → Int64) (hk0 : Kd h0 = 15) {pl0 : va_W} (hok : tt_ok tt_tk cA Kd pl0) : jj_M l D cA ak yL_openSeries (.codeWith yL_openSeries cL_openSeries 4 (some .int) [(0, 9, 12, 25)]) 7 103 1 6 ([(ho, .inl (cA 2, 1, .inr (.inl g0)))] ++ pl0) [.ref h0, .int p1, .ref ho] (tt_O (fun rx pl1 r => ∃ K1 : Nat → Nat, tt_ex Kd K1 ∧ tt_ok tt_tk cA K1 pl1 ∧ tt_fr Kd [] pl0 pl1 ∧ tt_fa Kd [] pl0 pl1 ∧ ∃ (g1 : Nat → Int64) (v : Int32), rx = [(ho, .inl (cA 2, 1, .inr (.inl g1)))] ∧ r = some (.int v))) (tt_OX (fun _ _ _ => False)) := by
  refine jj_startW hl (by decide) jw_fcb27d7b3e (jj_le rfl) ?_
  intro p e s m args below meth c A hargs hA C htab hmn
  have lp1 := tt_lo p1
  have up1 := tt_hi p1
  refine jj_aload_n C dL_openSeries_0 rfl ?_
  refine jj_iconst (v := 0) C dL_openSeries_1 (by decide) ?_
  refine jj_aload_n C dL_openSeries_2 rfl ?_
  refine jj_iload_n C dL_openSeries_3 rfl ?_
  obtain ⟨qc, gs, hqc⟩ := tt_recv (cx := []) hok hk0 (by decide) rfl
  refine tt_callV (rest := [.int 0, .ref ho]) C (tc_X10_openSeries_1 hl D cA ak h0 p1 hk0 hok) [] [0] rfl rfl (by decide) (by decide) (by decide) qc hqc rfl rfl jw_0866c47bf7 jw_319a03cd9d jw_afd2b792fd jw_6f6d707074 jw_7e16982f09 jn_X10_openSeries rfl (jj_le rfl) (jj_le rfl) (jj_le rfl) (jj_le rfl) (jj_le rfl) dL_openSeries_4 rfl (fun E rx pl_1 X_5 => ?_) (fun rx pl_1 r O_4 => ?_)
  · obtain ⟨rfl, hok_2, hr_3, hfa9, hE⟩ := X_5
    obtain rfl := hE
    refine jj_catch C [] (⟨0, 9, 12, 25⟩ : ExceptionTableEntry) [] (htab.trans rfl) (fun z hz => by cases hz) (by decide) (by decide) jw_3b9ee68727 (by decide +kernel) (fun q9 => ?_)
    refine jj_astore_n C dL_openSeries_12 (by decide) rfl ?_
    refine jj_iconst (v := 1) C dL_openSeries_13 (by decide) ?_
    exact jj_iret C ⟨[_], pl_1, rfl, Kd, (tt_ex.refl _), hok_2, (hr_3.sub (by decide)), (hfa9.sub (by decide)), _, (1 : Int32), rfl, rfl⟩ dL_openSeries_14 (jj_le rfl) (jj_le rfl)
  · obtain ⟨rfl, hok_2, hr_3, hfa9, hR_8⟩ := O_4
    obtain ⟨x_9, -, -, -, -, rfl⟩ := hR_8
    have lq_x_9 := tt_lo x_9
    have uq_x_9 := tt_hi x_9
    obtain ⟨y_10, ey_10, vy_10⟩ := tt_i2l x_9
    refine jj_i2l (v := y_10) C dL_openSeries_7 ey_10 ?_
    refine jj_last C 0 rfl (vp_in_iff.mpr (by decide)) (g := (vp_updL g0 0 y_10)) rfl rfl dL_openSeries_8 ?_
    refine jj_goto (tgt := 15) C dL_openSeries_9 (by decide) ?_
    refine jj_iconst (v := 0) C dL_openSeries_15 (by decide) ?_
    exact jj_iret C ⟨[_], pl_1, rfl, Kd, (tt_ex.refl _), hok_2, (hr_3.sub (by decide)), (hfa9.sub (by decide)), _, (0 : Int32), rfl, rfl⟩ dL_openSeries_16 (jj_le rfl) (jj_le rfl)

set_option maxHeartbeats 4000000 in
set_option maxRecDepth 100000 in
theorem lm_passDays {l : Launch} (hl : l.stackTraces = false) (D : va_G) (cA : Nat → ClassId) (ak : (Nat → Nat) × (Nat → Nat)) {Kd : Nat → Nat} (h0 ho : Nat) (p1 : Int32) (g0 : Nat → Int64) (hk0 : Kd h0 = 15) {pl0 : va_W} (hok : tt_ok tt_tk cA Kd pl0) : jj_M l D cA ak yL_passDays (.codeWith yL_passDays cL_passDays 4 (some .int) [(0, 8, 11, 19)]) 8 123 63 408 ([(ho, .inl (cA 2, 1, .inr (.inl g0)))] ++ pl0) [.ref h0, .int p1, .ref ho] (tt_O (fun rx pl1 r => ∃ K1 : Nat → Nat, tt_ex Kd K1 ∧ tt_ok tt_tk cA K1 pl1 ∧ tt_fr Kd [(1, 0), (1, 1), (1, 2), (1, 3), (1, 4), (1, 5), (1, 6), (1, 7), (1, 8), (1, 9), (2, 0), (2, 1), (2, 2), (2, 3), (2, 4), (3, 0), (3, 1), (3, 2), (3, 3), (3, 4), (3, 5), (4, 0), (4, 1), (4, 2), (4, 3), (4, 4), (15, 7), (15, 8)] pl0 pl1 ∧ tt_fa Kd [5] pl0 pl1 ∧ ∃ (g1 : Nat → Int64) (v : Int32), rx = [(ho, .inl (cA 2, 1, .inr (.inl g1)))] ∧ r = some (.int v))) (tt_OX (fun _ _ _ => False)) := by
  refine jj_startW hl (by decide) jw_9f20fb149b (jj_le rfl) ?_
  intro p e s m args below meth c A hargs hA C htab hmn
  have lp1 := tt_lo p1
  have up1 := tt_hi p1
  refine jj_aload_n C dL_passDays_0 rfl ?_
  refine jj_iconst (v := 0) C dL_passDays_1 (by decide) ?_
  refine jj_aload_n C dL_passDays_2 rfl ?_
  refine jj_iload_n C dL_passDays_3 rfl ?_
  obtain ⟨qc, gs, hqc⟩ := tt_recv (cx := []) hok hk0 (by decide) rfl
  refine tt_callV (rest := [.int 0, .ref ho]) C (tc_X10_passDays_1 hl D cA ak h0 p1 hk0 hok) [] [0] rfl rfl (by decide) (by decide) (by decide) qc hqc rfl rfl jw_6f520b970d jw_e9b3a2b32d jw_8cab60786f jw_6f6d707074 jw_f76c35ce46 jn_X10_passDays rfl (jj_le rfl) (jj_le rfl) (jj_le rfl) (jj_le rfl) (jj_le rfl) dL_passDays_4 rfl (fun E rx pl_1 X_5 => ?_) (fun rx pl_1 r O_4 => ?_)
  · obtain ⟨rfl, hok_2, hr_3, hfa9, hE⟩ := X_5
    obtain rfl := hE
    refine jj_catch C [] (⟨0, 8, 11, 19⟩ : ExceptionTableEntry) [] (htab.trans rfl) (fun z hz => by cases hz) (by decide) (by decide) jw_bcdf9cc9d5 (by decide +kernel) (fun q9 => ?_)
    refine jj_astore_n C dL_passDays_11 (by decide) rfl ?_
    refine jj_iconst (v := 1) C dL_passDays_12 (by decide) ?_
    exact jj_iret C ⟨[_], pl_1, rfl, Kd, (tt_ex.refl _), hok_2, (hr_3.sub (by decide)), (hfa9.sub (by decide)), _, (1 : Int32), rfl, rfl⟩ dL_passDays_13 (jj_le rfl) (jj_le rfl)
  · obtain ⟨K_6, hx_7, rfl, hok_2, hr_3, hfa9, hR_8⟩ := O_4
    obtain ⟨y_9, -, -, rfl⟩ := hR_8
    refine jj_last C 0 rfl (vp_in_iff.mpr (by decide)) (g := (vp_updL g0 0 y_9)) rfl rfl dL_passDays_7 ?_
    refine jj_goto (tgt := 14) C dL_passDays_8 (by decide) ?_
    refine jj_iconst (v := 0) C dL_passDays_14 (by decide) ?_
    exact jj_iret C ⟨[_], pl_1, rfl, K_6, hx_7, hok_2, (hr_3.sub (by decide)), (hfa9.sub (by decide)), _, (0 : Int32), rfl, rfl⟩ dL_passDays_15 (jj_le rfl) (jj_le rfl)

set_option maxHeartbeats 4000000 in
set_option maxRecDepth 100000 in
theorem lm_rateFor {l : Launch} (hl : l.stackTraces = false) (D : va_G) (cA : Nat → ClassId) (ak : (Nat → Nat) × (Nat → Nat)) {Kd : Nat → Nat} (h0 ho : Nat) (p1 : Int32) (p2 : Int64) (g0 : Nat → Int64) (hk0 : Kd h0 = 15) {pl0 : va_W} (hok : tt_ok tt_tk cA Kd pl0) : jj_M l D cA ak yL_rateFor (.codeWith yL_rateFor cL_rateFor 6 (some .int) [(0, 11, 14, 25), (0, 11, 18, 96)]) 9 164 2 12 ([(ho, .inl (cA 2, 1, .inr (.inl g0)))] ++ pl0) [.ref h0, .int p1, .long p2, .ref ho] (tt_O (fun rx pl1 r => ∃ K1 : Nat → Nat, tt_ex Kd K1 ∧ tt_ok tt_tk cA K1 pl1 ∧ tt_fr Kd [(2, 0), (2, 1), (2, 2), (2, 3), (2, 4), (9, 1), (9, 2), (9, 3), (9, 4), (9, 5)] pl0 pl1 ∧ tt_fa Kd [] pl0 pl1 ∧ ∃ (g1 : Nat → Int64) (v : Int32), rx = [(ho, .inl (cA 2, 1, .inr (.inl g1)))] ∧ r = some (.int v))) (tt_OX (fun _ _ _ => False)) := by
  refine jj_startW hl (by decide) jw_966f430fed (jj_le rfl) ?_
  intro p e s m args below meth c A hargs hA C htab hmn
  have lp1 := tt_lo p1
  have up1 := tt_hi p1
  refine jj_aload C dL_rateFor_0 rfl ?_
  refine jj_iconst (v := 0) C dL_rateFor_2 (by decide) ?_
  refine jj_aload_n C dL_rateFor_3 rfl ?_
  refine jj_iload_n C dL_rateFor_4 rfl ?_
  refine jj_lload_n C dL_rateFor_5 rfl ?_
  obtain ⟨qc, gs, hqc⟩ := tt_recv (cx := []) hok hk0 (by decide) rfl
  refine tt_callV (rest := [.int 0, .ref ho]) C (tc_X10_rateFor_1 hl D cA ak h0 p1 p2 hk0 hok) [] [0] rfl rfl (by decide) (by decide) (by decide) qc hqc rfl rfl jw_c97c0e5dc3 jw_5f4c44101a jw_7f68fe029e jw_6f6d707074 jw_cedc8d3709 jn_X10_rateFor rfl (jj_le rfl) (jj_le rfl) (jj_le rfl) (jj_le rfl) (jj_le rfl) dL_rateFor_6 rfl (fun E rx pl_1 X_5 => ?_) (fun rx pl_1 r O_4 => ?_)
  · obtain ⟨rfl, hok_2, hr_3, hfa9, hE⟩ := X_5
    rcases hE with rfl | rfl
    · refine jj_catch C [] (⟨0, 11, 14, 25⟩ : ExceptionTableEntry) [(⟨0, 11, 18, 96⟩ : ExceptionTableEntry)] (htab.trans rfl) (fun z hz => by cases hz) (by decide) (by decide) jw_3b9ee68727 (by decide +kernel) (fun q9 => ?_)
      refine jj_astore C dL_rateFor_14 (by decide) rfl ?_
      refine jj_iconst (v := 1) C dL_rateFor_16 (by decide) ?_
      exact jj_iret C ⟨[_], pl_1, rfl, Kd, (tt_ex.refl _), hok_2, (hr_3.sub (by decide)), (hfa9.sub (by decide)), _, (1 : Int32), rfl, rfl⟩ dL_rateFor_17 (jj_le rfl) (jj_le rfl)
    · refine jj_catch C [(⟨0, 11, 14, 25⟩ : ExceptionTableEntry)] (⟨0, 11, 18, 96⟩ : ExceptionTableEntry) [] (htab.trans rfl) (fun z hz => by rcases List.mem_cons.mp hz with rfl | hz; exact Or.inr ⟨by decide, "java/lang/IndexOutOfBoundsException", jw_3b9ee68727, by decide +kernel⟩; cases hz) (by decide) (by decide) jw_a526bc76ac (by decide +kernel) (fun q9 => ?_)
      refine jj_astore C dL_rateFor_18 (by decide) rfl ?_
      refine jj_iconst (v := 2) C dL_rateFor_20 (by decide) ?_
      exact jj_iret C ⟨[_], pl_1, rfl, Kd, (tt_ex.refl _), hok_2, (hr_3.sub (by decide)), (hfa9.sub (by decide)), _, (2 : Int32), rfl, rfl⟩ dL_rateFor_21 (jj_le rfl) (jj_le rfl)
  · obtain ⟨rfl, hok_2, hr_3, hfa9, hR_8⟩ := O_4
    obtain ⟨x_9, -, -, -, -, rfl⟩ := hR_8
    have lq_x_9 := tt_lo x_9
    have uq_x_9 := tt_hi x_9
    obtain ⟨y_10, ey_10, vy_10⟩ := tt_i2l x_9
    refine jj_i2l (v := y_10) C dL_rateFor_9 ey_10 ?_
    refine jj_last C 0 rfl (vp_in_iff.mpr (by decide)) (g := (vp_updL g0 0 y_10)) rfl rfl dL_rateFor_10 ?_
    refine jj_goto (tgt := 22) C dL_rateFor_11 (by decide) ?_
    refine jj_iconst (v := 0) C dL_rateFor_22 (by decide) ?_
    exact jj_iret C ⟨[_], pl_1, rfl, Kd, (tt_ex.refl _), hok_2, (hr_3.sub (by decide)), (hfa9.sub (by decide)), _, (0 : Int32), rfl, rfl⟩ dL_rateFor_23 (jj_le rfl) (jj_le rfl)

set_option maxHeartbeats 4000000 in
set_option maxRecDepth 100000 in
theorem lm_redeem {l : Launch} (hl : l.stackTraces = false) (D : va_G) (cA : Nat → ClassId) (ak : (Nat → Nat) × (Nat → Nat)) {Kd : Nat → Nat} (h0 ho : Nat) (p1 : Int32) (p2 : Int32) (g0 : Nat → Int64) (hk0 : Kd h0 = 15) {pl0 : va_W} (hok : tt_ok tt_tk cA Kd pl0) : jj_M l D cA ak yL_redeem (.codeWith yL_redeem cL_redeem 5 (some .int) [(0, 10, 13, 25), (0, 10, 17, 19), (0, 10, 21, 13)]) 8 124 63 408 ([(ho, .inl (cA 2, 1, .inr (.inl g0)))] ++ pl0) [.ref h0, .int p1, .int p2, .ref ho] (tt_O (fun rx pl1 r => ∃ K1 : Nat → Nat, tt_ex Kd K1 ∧ tt_ok tt_tk cA K1 pl1 ∧ tt_fr Kd [(1, 0), (1, 1), (1, 2), (1, 3), (1, 4), (1, 5), (1, 6), (1, 7), (1, 8), (1, 9), (2, 0), (2, 1), (2, 2), (2, 3), (2, 4), (3, 0), (3, 1), (3, 2), (3, 3), (3, 4), (3, 5), (4, 0), (4, 1), (4, 2), (4, 3), (4, 4), (15, 7), (15, 8)] pl0 pl1 ∧ tt_fa Kd [5] pl0 pl1 ∧ ∃ (g1 : Nat → Int64) (v : Int32), rx = [(ho, .inl (cA 2, 1, .inr (.inl g1)))] ∧ r = some (.int v))) (tt_OX (fun _ _ _ => False)) := by
  refine jj_startW hl (by decide) jw_6df602aac0 (jj_le rfl) ?_
  intro p e s m args below meth c A hargs hA C htab hmn
  have lp1 := tt_lo p1
  have up1 := tt_hi p1
  have lp2 := tt_lo p2
  have up2 := tt_hi p2
  refine jj_aload_n C dL_redeem_0 rfl ?_
  refine jj_iconst (v := 0) C dL_redeem_1 (by decide) ?_
  refine jj_aload_n C dL_redeem_2 rfl ?_
  refine jj_iload_n C dL_redeem_3 rfl ?_
  refine jj_iload_n C dL_redeem_4 rfl ?_
  obtain ⟨qc, gs, hqc⟩ := tt_recv (cx := []) hok hk0 (by decide) rfl
  refine tt_callV (rest := [.int 0, .ref ho]) C (tc_X10_redeem_1 hl D cA ak h0 p1 p2 hk0 hok) [] [0] rfl rfl (by decide) (by decide) (by decide) qc hqc rfl rfl jw_e656f390bc jw_40ad2ca4b7 jw_73b24fa7c2 jw_6f6d707074 jw_bf324c0f63 jn_X10_redeem rfl (jj_le rfl) (jj_le rfl) (jj_le rfl) (jj_le rfl) (jj_le rfl) dL_redeem_5 rfl (fun E rx pl_1 X_5 => ?_) (fun rx pl_1 r O_4 => ?_)
  · obtain ⟨rfl, hok_2, hr_3, hfa9, hE⟩ := X_5
    rcases hE with rfl | rfl | rfl
    · refine jj_catch C [(⟨0, 10, 13, 25⟩ : ExceptionTableEntry)] (⟨0, 10, 17, 19⟩ : ExceptionTableEntry) [(⟨0, 10, 21, 13⟩ : ExceptionTableEntry)] (htab.trans rfl) (fun z hz => by rcases List.mem_cons.mp hz with rfl | hz; exact Or.inr ⟨by decide, "java/lang/IndexOutOfBoundsException", jw_3b9ee68727, by decide +kernel⟩; cases hz) (by decide) (by decide) jw_bcdf9cc9d5 (by decide +kernel) (fun q9 => ?_)
      refine jj_astore C dL_redeem_17 (by decide) rfl ?_
      refine jj_iconst (v := 2) C dL_redeem_19 (by decide) ?_
      exact jj_iret C ⟨[_], pl_1, rfl, Kd, (tt_ex.refl _), hok_2, (hr_3.sub (by decide)), (hfa9.sub (by decide)), _, (2 : Int32), rfl, rfl⟩ dL_redeem_20 (jj_le rfl) (jj_le rfl)
    · refine jj_catch C [(⟨0, 10, 13, 25⟩ : ExceptionTableEntry), (⟨0, 10, 17, 19⟩ : ExceptionTableEntry)] (⟨0, 10, 21, 13⟩ : ExceptionTableEntry) [] (htab.trans rfl) (fun z hz => by rcases List.mem_cons.mp hz with rfl | hz; exact Or.inr ⟨by decide, "java/lang/IndexOutOfBoundsException", jw_3b9ee68727, by decide +kernel⟩; rcases List.mem_cons.mp hz with rfl | hz; exact Or.inr ⟨by decide, "java/lang/IllegalArgumentException", jw_bcdf9cc9d5, by decide +kernel⟩; cases hz) (by decide) (by decide) jw_98767da53c (by decide +kernel) (fun q9 => ?_)
      refine jj_astore C dL_redeem_21 (by decide) rfl ?_
      refine jj_iconst (v := 3) C dL_redeem_23 (by decide) ?_
      exact jj_iret C ⟨[_], pl_1, rfl, Kd, (tt_ex.refl _), hok_2, (hr_3.sub (by decide)), (hfa9.sub (by decide)), _, (3 : Int32), rfl, rfl⟩ dL_redeem_24 (jj_le rfl) (jj_le rfl)
    · refine jj_catch C [] (⟨0, 10, 13, 25⟩ : ExceptionTableEntry) [(⟨0, 10, 17, 19⟩ : ExceptionTableEntry), (⟨0, 10, 21, 13⟩ : ExceptionTableEntry)] (htab.trans rfl) (fun z hz => by cases hz) (by decide) (by decide) jw_3b9ee68727 (by decide +kernel) (fun q9 => ?_)
      refine jj_astore C dL_redeem_13 (by decide) rfl ?_
      refine jj_iconst (v := 1) C dL_redeem_15 (by decide) ?_
      exact jj_iret C ⟨[_], pl_1, rfl, Kd, (tt_ex.refl _), hok_2, (hr_3.sub (by decide)), (hfa9.sub (by decide)), _, (1 : Int32), rfl, rfl⟩ dL_redeem_16 (jj_le rfl) (jj_le rfl)
  · obtain ⟨K_6, hx_7, rfl, hok_2, hr_3, hfa9, hR_8⟩ := O_4
    rcases hR_8 with ⟨-, -, -, -, rfl⟩ | ⟨x_9, -, -, -, -, -, -, rfl⟩
    · refine jj_i2l (v := 11) C dL_redeem_8 (by decide) ?_
      refine jj_last C 0 rfl (vp_in_iff.mpr (by decide)) (g := (vp_updL g0 0 (11 : Int64))) rfl rfl dL_redeem_9 ?_
      refine jj_goto (tgt := 25) C dL_redeem_10 (by decide) ?_
      refine jj_iconst (v := 0) C dL_redeem_25 (by decide) ?_
      exact jj_iret C ⟨[_], pl_1, rfl, K_6, hx_7, hok_2, (hr_3.sub (by decide)), (hfa9.sub (by decide)), _, (0 : Int32), rfl, rfl⟩ dL_redeem_26 (jj_le rfl) (jj_le rfl)
    · have lq_x_9 := tt_lo x_9
      have uq_x_9 := tt_hi x_9
      obtain ⟨y_10, ey_10, vy_10⟩ := tt_i2l x_9
      refine jj_i2l (v := y_10) C dL_redeem_8 ey_10 ?_
      refine jj_last C 0 rfl (vp_in_iff.mpr (by decide)) (g := (vp_updL g0 0 y_10)) rfl rfl dL_redeem_9 ?_
      refine jj_goto (tgt := 25) C dL_redeem_10 (by decide) ?_
      refine jj_iconst (v := 0) C dL_redeem_25 (by decide) ?_
      exact jj_iret C ⟨[_], pl_1, rfl, K_6, hx_7, hok_2, (hr_3.sub (by decide)), (hfa9.sub (by decide)), _, (0 : Int32), rfl, rfl⟩ dL_redeem_26 (jj_le rfl) (jj_le rfl)

set_option maxHeartbeats 4000000 in
set_option maxRecDepth 100000 in
theorem lm_reportByte {l : Launch} (hl : l.stackTraces = false) (D : va_G) (cA : Nat → ClassId) (ak : (Nat → Nat) × (Nat → Nat)) {Kd : Nat → Nat} (h0 ho : Nat) (p1 : Int32) (g0 : Nat → Int64) (hk0 : Kd h0 = 15) {pl0 : va_W} (hok : tt_ok tt_tk cA Kd pl0) : jj_M l D cA ak yL_reportByte (.codeWith yL_reportByte cL_reportByte 4 (some .int) [(0, 9, 12, 25)]) 7 103 1 6 ([(ho, .inl (cA 2, 1, .inr (.inl g0)))] ++ pl0) [.ref h0, .int p1, .ref ho] (tt_O (fun rx pl1 r => ∃ K1 : Nat → Nat, tt_ex Kd K1 ∧ tt_ok tt_tk cA K1 pl1 ∧ tt_fr Kd [] pl0 pl1 ∧ tt_fa Kd [] pl0 pl1 ∧ ∃ (g1 : Nat → Int64) (v : Int32), rx = [(ho, .inl (cA 2, 1, .inr (.inl g1)))] ∧ r = some (.int v))) (tt_OX (fun _ _ _ => False)) := by
  refine jj_startW hl (by decide) jw_6dbc153eb3 (jj_le rfl) ?_
  intro p e s m args below meth c A hargs hA C htab hmn
  have lp1 := tt_lo p1
  have up1 := tt_hi p1
  refine jj_aload_n C dL_reportByte_0 rfl ?_
  refine jj_iconst (v := 0) C dL_reportByte_1 (by decide) ?_
  refine jj_aload_n C dL_reportByte_2 rfl ?_
  refine jj_iload_n C dL_reportByte_3 rfl ?_
  obtain ⟨qc, gs, hqc⟩ := tt_recv (cx := []) hok hk0 (by decide) rfl
  refine tt_callV (rest := [.int 0, .ref ho]) C (tc_X10_reportByte_1 hl D cA ak h0 p1 hk0 hok) [] [0] rfl rfl (by decide) (by decide) (by decide) qc hqc rfl rfl jw_e1f14d18cd jw_49b0545e88 jw_5a796b90d7 jw_6f6d707074 jw_53e83ff6d2 jn_X10_reportByte rfl (jj_le rfl) (jj_le rfl) (jj_le rfl) (jj_le rfl) (jj_le rfl) dL_reportByte_4 rfl (fun E rx pl_1 X_5 => ?_) (fun rx pl_1 r O_4 => ?_)
  · obtain ⟨rfl, hok_2, hr_3, hfa9, hE⟩ := X_5
    obtain rfl := hE
    refine jj_catch C [] (⟨0, 9, 12, 25⟩ : ExceptionTableEntry) [] (htab.trans rfl) (fun z hz => by cases hz) (by decide) (by decide) jw_3b9ee68727 (by decide +kernel) (fun q9 => ?_)
    refine jj_astore_n C dL_reportByte_12 (by decide) rfl ?_
    refine jj_iconst (v := 1) C dL_reportByte_13 (by decide) ?_
    exact jj_iret C ⟨[_], pl_1, rfl, Kd, (tt_ex.refl _), hok_2, (hr_3.sub (by decide)), (hfa9.sub (by decide)), _, (1 : Int32), rfl, rfl⟩ dL_reportByte_14 (jj_le rfl) (jj_le rfl)
  · obtain ⟨rfl, hok_2, hr_3, hfa9, hR_8⟩ := O_4
    obtain ⟨x_9, -, -, -, -, rfl⟩ := hR_8
    have lq_x_9 := tt_lo x_9
    have uq_x_9 := tt_hi x_9
    obtain ⟨y_10, ey_10, vy_10⟩ := tt_i2l x_9
    refine jj_i2l (v := y_10) C dL_reportByte_7 ey_10 ?_
    refine jj_last C 0 rfl (vp_in_iff.mpr (by decide)) (g := (vp_updL g0 0 y_10)) rfl rfl dL_reportByte_8 ?_
    refine jj_goto (tgt := 15) C dL_reportByte_9 (by decide) ?_
    refine jj_iconst (v := 0) C dL_reportByte_15 (by decide) ?_
    exact jj_iret C ⟨[_], pl_1, rfl, Kd, (tt_ex.refl _), hok_2, (hr_3.sub (by decide)), (hfa9.sub (by decide)), _, (0 : Int32), rfl, rfl⟩ dL_reportByte_16 (jj_le rfl) (jj_le rfl)

set_option maxHeartbeats 4000000 in
set_option maxRecDepth 100000 in
theorem lm_request {l : Launch} (hl : l.stackTraces = false) (D : va_G) (cA : Nat → ClassId) (ak : (Nat → Nat) × (Nat → Nat)) {Kd : Nat → Nat} (h0 ho : Nat) (p1 : Int32) (p2 : Int32) (g0 : Nat → Int64) (hk0 : Kd h0 = 15) {pl0 : va_W} (hok : tt_ok tt_tk cA Kd pl0) : jj_M l D cA ak yL_request (.codeWith yL_request cL_request 5 (some .int) [(0, 9, 12, 25), (0, 9, 16, 19)]) 9 146 2 12 ([(ho, .inl (cA 2, 1, .inr (.inl g0)))] ++ pl0) [.ref h0, .int p1, .int p2, .ref ho] (tt_O (fun rx pl1 r => ∃ K1 : Nat → Nat, tt_ex Kd K1 ∧ tt_ok tt_tk cA K1 pl1 ∧ tt_fr Kd [] pl0 pl1 ∧ tt_fa Kd [] pl0 pl1 ∧ ∃ (g1 : Nat → Int64) (v : Int32), rx = [(ho, .inl (cA 2, 1, .inr (.inl g1)))] ∧ r = some (.int v))) (tt_OX (fun _ _ _ => False)) := by
  refine jj_startW hl (by decide) jw_eedf042953 (jj_le rfl) ?_
  intro p e s m args below meth c A hargs hA C htab hmn
  have lp1 := tt_lo p1
  have up1 := tt_hi p1
  have lp2 := tt_lo p2
  have up2 := tt_hi p2
  refine jj_aload_n C dL_request_0 rfl ?_
  refine jj_iconst (v := 0) C dL_request_1 (by decide) ?_
  refine jj_aload_n C dL_request_2 rfl ?_
  refine jj_iload_n C dL_request_3 rfl ?_
  refine jj_iload_n C dL_request_4 rfl ?_
  obtain ⟨qc, gs, hqc⟩ := tt_recv (cx := []) hok hk0 (by decide) rfl
  refine tt_callV (rest := [.int 0, .ref ho]) C (tc_X10_request_1 hl D cA ak h0 p1 p2 hk0 hok) [] [0] rfl rfl (by decide) (by decide) (by decide) qc hqc rfl rfl jw_bbf0f42e45 jw_7c13b9e5ec jw_bcb961214c jw_6f6d707074 jw_c2a2d64516 jn_X10_request rfl (jj_le rfl) (jj_le rfl) (jj_le rfl) (jj_le rfl) (jj_le rfl) dL_request_5 rfl (fun E rx pl_1 X_5 => ?_) (fun rx pl_1 r O_4 => ?_)
  · obtain ⟨rfl, hok_2, hr_3, hfa9, hE⟩ := X_5
    rcases hE with rfl | rfl
    · refine jj_catch C [(⟨0, 9, 12, 25⟩ : ExceptionTableEntry)] (⟨0, 9, 16, 19⟩ : ExceptionTableEntry) [] (htab.trans rfl) (fun z hz => by rcases List.mem_cons.mp hz with rfl | hz; exact Or.inr ⟨by decide, "java/lang/IndexOutOfBoundsException", jw_3b9ee68727, by decide +kernel⟩; cases hz) (by decide) (by decide) jw_bcdf9cc9d5 (by decide +kernel) (fun q9 => ?_)
      refine jj_astore C dL_request_16 (by decide) rfl ?_
      refine jj_iconst (v := 2) C dL_request_18 (by decide) ?_
      exact jj_iret C ⟨[_], pl_1, rfl, Kd, (tt_ex.refl _), hok_2, (hr_3.sub (by decide)), (hfa9.sub (by decide)), _, (2 : Int32), rfl, rfl⟩ dL_request_19 (jj_le rfl) (jj_le rfl)
    · refine jj_catch C [] (⟨0, 9, 12, 25⟩ : ExceptionTableEntry) [(⟨0, 9, 16, 19⟩ : ExceptionTableEntry)] (htab.trans rfl) (fun z hz => by cases hz) (by decide) (by decide) jw_3b9ee68727 (by decide +kernel) (fun q9 => ?_)
      refine jj_astore C dL_request_12 (by decide) rfl ?_
      refine jj_iconst (v := 1) C dL_request_14 (by decide) ?_
      exact jj_iret C ⟨[_], pl_1, rfl, Kd, (tt_ex.refl _), hok_2, (hr_3.sub (by decide)), (hfa9.sub (by decide)), _, (1 : Int32), rfl, rfl⟩ dL_request_15 (jj_le rfl) (jj_le rfl)
  · obtain ⟨rfl, hok_2, hr_3, hfa9, hR_8⟩ := O_4
    rcases hR_8 with ⟨y_9, -, -, rfl⟩ | ⟨-, -, rfl⟩ | ⟨-, -, rfl⟩
    · refine jj_last C 0 rfl (vp_in_iff.mpr (by decide)) (g := (vp_updL g0 0 y_9)) rfl rfl dL_request_8 ?_
      refine jj_goto (tgt := 20) C dL_request_9 (by decide) ?_
      refine jj_iconst (v := 0) C dL_request_20 (by decide) ?_
      exact jj_iret C ⟨[_], pl_1, rfl, Kd, (tt_ex.refl _), hok_2, (hr_3.sub (by decide)), (hfa9.sub (by decide)), _, (0 : Int32), rfl, rfl⟩ dL_request_21 (jj_le rfl) (jj_le rfl)
    · refine jj_last C 0 rfl (vp_in_iff.mpr (by decide)) (g := (vp_updL g0 0 (0 : Int64))) rfl rfl dL_request_8 ?_
      refine jj_goto (tgt := 20) C dL_request_9 (by decide) ?_
      refine jj_iconst (v := 0) C dL_request_20 (by decide) ?_
      exact jj_iret C ⟨[_], pl_1, rfl, Kd, (tt_ex.refl _), hok_2, (hr_3.sub (by decide)), (hfa9.sub (by decide)), _, (0 : Int32), rfl, rfl⟩ dL_request_21 (jj_le rfl) (jj_le rfl)
    · refine jj_last C 0 rfl (vp_in_iff.mpr (by decide)) (g := (vp_updL g0 0 (1 : Int64))) rfl rfl dL_request_8 ?_
      refine jj_goto (tgt := 20) C dL_request_9 (by decide) ?_
      refine jj_iconst (v := 0) C dL_request_20 (by decide) ?_
      exact jj_iret C ⟨[_], pl_1, rfl, Kd, (tt_ex.refl _), hok_2, (hr_3.sub (by decide)), (hfa9.sub (by decide)), _, (0 : Int32), rfl, rfl⟩ dL_request_21 (jj_le rfl) (jj_le rfl)

set_option maxHeartbeats 4000000 in
set_option maxRecDepth 100000 in
theorem lm_richest {l : Launch} (hl : l.stackTraces = false) (D : va_G) (cA : Nat → ClassId) (ak : (Nat → Nat) × (Nat → Nat)) {Kd : Nat → Nat} (h0 ho : Nat) (p1 : Int32) (g0 : Nat → Int64) (hk0 : Kd h0 = 15) {pl0 : va_W} (hok : tt_ok tt_tk cA Kd pl0) : jj_M l D cA ak yL_richest (.codeWith yL_richest cL_richest 4 (some .int) [(0, 9, 12, 25)]) 9 160 1 6 ([(ho, .inl (cA 2, 1, .inr (.inl g0)))] ++ pl0) [.ref h0, .int p1, .ref ho] (tt_O (fun rx pl1 r => ∃ K1 : Nat → Nat, tt_ex Kd K1 ∧ tt_ok tt_tk cA K1 pl1 ∧ tt_fr Kd [(2, 0), (2, 1), (2, 2), (2, 3), (2, 4), (9, 1), (9, 2), (9, 3), (9, 4), (9, 5)] pl0 pl1 ∧ tt_fa Kd [] pl0 pl1 ∧ ∃ (g1 : Nat → Int64) (v : Int32), rx = [(ho, .inl (cA 2, 1, .inr (.inl g1)))] ∧ r = some (.int v))) (tt_OX (fun _ _ _ => False)) := by
  refine jj_startW hl (by decide) jw_342b2ea352 (jj_le rfl) ?_
  intro p e s m args below meth c A hargs hA C htab hmn
  have lp1 := tt_lo p1
  have up1 := tt_hi p1
  refine jj_aload_n C dL_richest_0 rfl ?_
  refine jj_iconst (v := 0) C dL_richest_1 (by decide) ?_
  refine jj_aload_n C dL_richest_2 rfl ?_
  refine jj_iload_n C dL_richest_3 rfl ?_
  obtain ⟨qc, gs, hqc⟩ := tt_recv (cx := []) hok hk0 (by decide) rfl
  refine tt_callV (rest := [.int 0, .ref ho]) C (tc_X10_richest_1 hl D cA ak h0 p1 hk0 hok) [] [0] rfl rfl (by decide) (by decide) (by decide) qc hqc rfl rfl jw_b2dd56f5c2 jw_7f534a9c1b jw_b227cffd38 jw_6f6d707074 jw_bbba4fb508 jn_X10_richest rfl (jj_le rfl) (jj_le rfl) (jj_le rfl) (jj_le rfl) (jj_le rfl) dL_richest_4 rfl (fun E rx pl_1 X_5 => ?_) (fun rx pl_1 r O_4 => ?_)
  · obtain ⟨rfl, hok_2, hr_3, hfa9, hE⟩ := X_5
    obtain rfl := hE
    refine jj_catch C [] (⟨0, 9, 12, 25⟩ : ExceptionTableEntry) [] (htab.trans rfl) (fun z hz => by cases hz) (by decide) (by decide) jw_3b9ee68727 (by decide +kernel) (fun q9 => ?_)
    refine jj_astore_n C dL_richest_12 (by decide) rfl ?_
    refine jj_iconst (v := 1) C dL_richest_13 (by decide) ?_
    exact jj_iret C ⟨[_], pl_1, rfl, Kd, (tt_ex.refl _), hok_2, (hr_3.sub (by decide)), (hfa9.sub (by decide)), _, (1 : Int32), rfl, rfl⟩ dL_richest_14 (jj_le rfl) (jj_le rfl)
  · obtain ⟨rfl, hok_2, hr_3, hfa9, hR_8⟩ := O_4
    rcases hR_8 with ⟨-, -, rfl⟩ | ⟨x_9, -, -, -, -, rfl⟩
    · refine jj_i2l (v := (-1)) C dL_richest_7 (by decide) ?_
      refine jj_last C 0 rfl (vp_in_iff.mpr (by decide)) (g := (vp_updL g0 0 ((-1) : Int64))) rfl rfl dL_richest_8 ?_
      refine jj_goto (tgt := 15) C dL_richest_9 (by decide) ?_
      refine jj_iconst (v := 0) C dL_richest_15 (by decide) ?_
      exact jj_iret C ⟨[_], pl_1, rfl, Kd, (tt_ex.refl _), hok_2, (hr_3.sub (by decide)), (hfa9.sub (by decide)), _, (0 : Int32), rfl, rfl⟩ dL_richest_16 (jj_le rfl) (jj_le rfl)
    · have lq_x_9 := tt_lo x_9
      have uq_x_9 := tt_hi x_9
      obtain ⟨y_10, ey_10, vy_10⟩ := tt_i2l x_9
      refine jj_i2l (v := y_10) C dL_richest_7 ey_10 ?_
      refine jj_last C 0 rfl (vp_in_iff.mpr (by decide)) (g := (vp_updL g0 0 y_10)) rfl rfl dL_richest_8 ?_
      refine jj_goto (tgt := 15) C dL_richest_9 (by decide) ?_
      refine jj_iconst (v := 0) C dL_richest_15 (by decide) ?_
      exact jj_iret C ⟨[_], pl_1, rfl, Kd, (tt_ex.refl _), hok_2, (hr_3.sub (by decide)), (hfa9.sub (by decide)), _, (0 : Int32), rfl, rfl⟩ dL_richest_16 (jj_le rfl) (jj_le rfl)

set_option maxHeartbeats 4000000 in
set_option maxRecDepth 100000 in
theorem lm_seriesValue {l : Launch} (hl : l.stackTraces = false) (D : va_G) (cA : Nat → ClassId) (ak : (Nat → Nat) × (Nat → Nat)) {Kd : Nat → Nat} (h0 ho : Nat) (p1 : Int32) (p2 : Int32) (g0 : Nat → Int64) (hk0 : Kd h0 = 15) {pl0 : va_W} (hok : tt_ok tt_tk cA Kd pl0) : jj_M l D cA ak yL_seriesValue (.codeWith yL_seriesValue cL_seriesValue 5 (some .int) [(0, 9, 12, 25), (0, 9, 16, 19)]) 9 147 2 12 ([(ho, .inl (cA 2, 1, .inr (.inl g0)))] ++ pl0) [.ref h0, .int p1, .int p2, .ref ho] (tt_O (fun rx pl1 r => ∃ K1 : Nat → Nat, tt_ex Kd K1 ∧ tt_ok tt_tk cA K1 pl1 ∧ tt_fr Kd [] pl0 pl1 ∧ tt_fa Kd [] pl0 pl1 ∧ ∃ (g1 : Nat → Int64) (v : Int32), rx = [(ho, .inl (cA 2, 1, .inr (.inl g1)))] ∧ r = some (.int v))) (tt_OX (fun _ _ _ => False)) := by
  refine jj_startW hl (by decide) jw_17d8e864a4 (jj_le rfl) ?_
  intro p e s m args below meth c A hargs hA C htab hmn
  have lp1 := tt_lo p1
  have up1 := tt_hi p1
  have lp2 := tt_lo p2
  have up2 := tt_hi p2
  refine jj_aload_n C dL_seriesValue_0 rfl ?_
  refine jj_iconst (v := 0) C dL_seriesValue_1 (by decide) ?_
  refine jj_aload_n C dL_seriesValue_2 rfl ?_
  refine jj_iload_n C dL_seriesValue_3 rfl ?_
  refine jj_iload_n C dL_seriesValue_4 rfl ?_
  obtain ⟨qc, gs, hqc⟩ := tt_recv (cx := []) hok hk0 (by decide) rfl
  refine tt_callV (rest := [.int 0, .ref ho]) C (tc_X10_seriesValue_1 hl D cA ak h0 p1 p2 hk0 hok) [] [0] rfl rfl (by decide) (by decide) (by decide) qc hqc rfl rfl jw_06bb5afd56 jw_bd1c4382f6 jw_8271804ff3 jw_6f6d707074 jw_17efc87c3d jn_X10_seriesValue rfl (jj_le rfl) (jj_le rfl) (jj_le rfl) (jj_le rfl) (jj_le rfl) dL_seriesValue_5 rfl (fun E rx pl_1 X_5 => ?_) (fun rx pl_1 r O_4 => ?_)
  · obtain ⟨rfl, hok_2, hr_3, hfa9, hE⟩ := X_5
    rcases hE with rfl | rfl
    · refine jj_catch C [(⟨0, 9, 12, 25⟩ : ExceptionTableEntry)] (⟨0, 9, 16, 19⟩ : ExceptionTableEntry) [] (htab.trans rfl) (fun z hz => by rcases List.mem_cons.mp hz with rfl | hz; exact Or.inr ⟨by decide, "java/lang/IndexOutOfBoundsException", jw_3b9ee68727, by decide +kernel⟩; cases hz) (by decide) (by decide) jw_bcdf9cc9d5 (by decide +kernel) (fun q9 => ?_)
      refine jj_astore C dL_seriesValue_16 (by decide) rfl ?_
      refine jj_iconst (v := 2) C dL_seriesValue_18 (by decide) ?_
      exact jj_iret C ⟨[_], pl_1, rfl, Kd, (tt_ex.refl _), hok_2, (hr_3.sub (by decide)), (hfa9.sub (by decide)), _, (2 : Int32), rfl, rfl⟩ dL_seriesValue_19 (jj_le rfl) (jj_le rfl)
    · refine jj_catch C [] (⟨0, 9, 12, 25⟩ : ExceptionTableEntry) [(⟨0, 9, 16, 19⟩ : ExceptionTableEntry)] (htab.trans rfl) (fun z hz => by cases hz) (by decide) (by decide) jw_3b9ee68727 (by decide +kernel) (fun q9 => ?_)
      refine jj_astore C dL_seriesValue_12 (by decide) rfl ?_
      refine jj_iconst (v := 1) C dL_seriesValue_14 (by decide) ?_
      exact jj_iret C ⟨[_], pl_1, rfl, Kd, (tt_ex.refl _), hok_2, (hr_3.sub (by decide)), (hfa9.sub (by decide)), _, (1 : Int32), rfl, rfl⟩ dL_seriesValue_15 (jj_le rfl) (jj_le rfl)
  · obtain ⟨rfl, hok_2, hr_3, hfa9, hR_8⟩ := O_4
    rcases hR_8 with ⟨y_9, rfl⟩ | rfl | rfl
    · refine jj_last C 0 rfl (vp_in_iff.mpr (by decide)) (g := (vp_updL g0 0 y_9)) rfl rfl dL_seriesValue_8 ?_
      refine jj_goto (tgt := 20) C dL_seriesValue_9 (by decide) ?_
      refine jj_iconst (v := 0) C dL_seriesValue_20 (by decide) ?_
      exact jj_iret C ⟨[_], pl_1, rfl, Kd, (tt_ex.refl _), hok_2, (hr_3.sub (by decide)), (hfa9.sub (by decide)), _, (0 : Int32), rfl, rfl⟩ dL_seriesValue_21 (jj_le rfl) (jj_le rfl)
    · refine jj_last C 0 rfl (vp_in_iff.mpr (by decide)) (g := (vp_updL g0 0 (0 : Int64))) rfl rfl dL_seriesValue_8 ?_
      refine jj_goto (tgt := 20) C dL_seriesValue_9 (by decide) ?_
      refine jj_iconst (v := 0) C dL_seriesValue_20 (by decide) ?_
      exact jj_iret C ⟨[_], pl_1, rfl, Kd, (tt_ex.refl _), hok_2, (hr_3.sub (by decide)), (hfa9.sub (by decide)), _, (0 : Int32), rfl, rfl⟩ dL_seriesValue_21 (jj_le rfl) (jj_le rfl)
    · refine jj_last C 0 rfl (vp_in_iff.mpr (by decide)) (g := (vp_updL g0 0 (1000000 : Int64))) rfl rfl dL_seriesValue_8 ?_
      refine jj_goto (tgt := 20) C dL_seriesValue_9 (by decide) ?_
      refine jj_iconst (v := 0) C dL_seriesValue_20 (by decide) ?_
      exact jj_iret C ⟨[_], pl_1, rfl, Kd, (tt_ex.refl _), hok_2, (hr_3.sub (by decide)), (hfa9.sub (by decide)), _, (0 : Int32), rfl, rfl⟩ dL_seriesValue_21 (jj_le rfl) (jj_le rfl)

set_option maxHeartbeats 4000000 in
set_option maxRecDepth 100000 in
theorem lm_setGate {l : Launch} (hl : l.stackTraces = false) (D : va_G) (cA : Nat → ClassId) (ak : (Nat → Nat) × (Nat → Nat)) {Kd : Nat → Nat} (h0 ho : Nat) (p1 : Int32) (g0 : Nat → Int64) (hk0 : Kd h0 = 15) {pl0 : va_W} (hok : tt_ok tt_tk cA Kd pl0) : jj_M l D cA ak yL_setGate (.codeWith yL_setGate cL_setGate 4 (some .int) [(0, 9, 12, 19)]) 7 104 63 408 ([(ho, .inl (cA 2, 1, .inr (.inl g0)))] ++ pl0) [.ref h0, .int p1, .ref ho] (tt_O (fun rx pl1 r => ∃ K1 : Nat → Nat, tt_ex Kd K1 ∧ tt_ok tt_tk cA K1 pl1 ∧ tt_fr Kd [(1, 0), (1, 1), (1, 2), (1, 3), (1, 4), (1, 5), (1, 6), (1, 7), (1, 8), (1, 9), (2, 0), (2, 1), (2, 2), (2, 3), (2, 4), (3, 0), (3, 1), (3, 2), (3, 3), (3, 4), (3, 5), (4, 0), (4, 1), (4, 2), (4, 3), (4, 4), (15, 7), (15, 8)] pl0 pl1 ∧ tt_fa Kd [5] pl0 pl1 ∧ ∃ (g1 : Nat → Int64) (v : Int32), rx = [(ho, .inl (cA 2, 1, .inr (.inl g1)))] ∧ r = some (.int v))) (tt_OX (fun _ _ _ => False)) := by
  refine jj_startW hl (by decide) jw_5c8724c074 (jj_le rfl) ?_
  intro p e s m args below meth c A hargs hA C htab hmn
  have lp1 := tt_lo p1
  have up1 := tt_hi p1
  refine jj_aload_n C dL_setGate_0 rfl ?_
  refine jj_iconst (v := 0) C dL_setGate_1 (by decide) ?_
  refine jj_aload_n C dL_setGate_2 rfl ?_
  refine jj_iload_n C dL_setGate_3 rfl ?_
  obtain ⟨qc, gs, hqc⟩ := tt_recv (cx := []) hok hk0 (by decide) rfl
  refine tt_callV (rest := [.int 0, .ref ho]) C (tc_X10_setGate_1 hl D cA ak h0 p1 hk0 hok) [] [0] rfl rfl (by decide) (by decide) (by decide) qc hqc rfl rfl jw_95db711199 jw_7757fc75cc jw_1e3b0abcea jw_6f6d707074 jw_c5c7ce5394 jn_X10_setGate rfl (jj_le rfl) (jj_le rfl) (jj_le rfl) (jj_le rfl) (jj_le rfl) dL_setGate_4 rfl (fun E rx pl_1 X_5 => ?_) (fun rx pl_1 r O_4 => ?_)
  · obtain ⟨rfl, hok_2, hr_3, hfa9, hE⟩ := X_5
    obtain rfl := hE
    refine jj_catch C [] (⟨0, 9, 12, 19⟩ : ExceptionTableEntry) [] (htab.trans rfl) (fun z hz => by cases hz) (by decide) (by decide) jw_bcdf9cc9d5 (by decide +kernel) (fun q9 => ?_)
    refine jj_astore_n C dL_setGate_12 (by decide) rfl ?_
    refine jj_iconst (v := 1) C dL_setGate_13 (by decide) ?_
    exact jj_iret C ⟨[_], pl_1, rfl, Kd, (tt_ex.refl _), hok_2, (hr_3.sub (by decide)), (hfa9.sub (by decide)), _, (1 : Int32), rfl, rfl⟩ dL_setGate_14 (jj_le rfl) (jj_le rfl)
  · obtain ⟨K_6, hx_7, rfl, hok_2, hr_3, hfa9, hR_8⟩ := O_4
    obtain ⟨x_9, -, -, -, -, rfl⟩ := hR_8
    have lq_x_9 := tt_lo x_9
    have uq_x_9 := tt_hi x_9
    obtain ⟨y_10, ey_10, vy_10⟩ := tt_i2l x_9
    refine jj_i2l (v := y_10) C dL_setGate_7 ey_10 ?_
    refine jj_last C 0 rfl (vp_in_iff.mpr (by decide)) (g := (vp_updL g0 0 y_10)) rfl rfl dL_setGate_8 ?_
    refine jj_goto (tgt := 15) C dL_setGate_9 (by decide) ?_
    refine jj_iconst (v := 0) C dL_setGate_15 (by decide) ?_
    exact jj_iret C ⟨[_], pl_1, rfl, K_6, hx_7, hok_2, (hr_3.sub (by decide)), (hfa9.sub (by decide)), _, (0 : Int32), rfl, rfl⟩ dL_setGate_16 (jj_le rfl) (jj_le rfl)

set_option maxHeartbeats 4000000 in
set_option maxRecDepth 100000 in
theorem lm_share {l : Launch} (hl : l.stackTraces = false) (D : va_G) (cA : Nat → ClassId) (ak : (Nat → Nat) × (Nat → Nat)) {Kd : Nat → Nat} (h0 ho : Nat) (p1 : Int32) (g0 : Nat → UInt64) (hk0 : Kd h0 = 15) {pl0 : va_W} (hok : tt_ok tt_tk cA Kd pl0) : jj_M l D cA ak yL_share (.codeWith yL_share cL_share 4 (some .int) [(0, 8, 11, 25), (0, 8, 14, 82)]) 9 147 2 12 ([(ho, .inl (cA 4, 1, .inr (.inr (.inr (.inl g0)))))] ++ pl0) [.ref h0, .int p1, .ref ho] (tt_O (fun rx pl1 r => ∃ K1 : Nat → Nat, tt_ex Kd K1 ∧ tt_ok tt_tk cA K1 pl1 ∧ tt_fr Kd [(2, 0), (2, 1), (2, 2), (2, 3), (2, 4), (9, 1), (9, 2), (9, 3), (9, 4), (9, 5)] pl0 pl1 ∧ tt_fa Kd [] pl0 pl1 ∧ ∃ (g1 : Nat → UInt64) (v : Int32), rx = [(ho, .inl (cA 4, 1, .inr (.inr (.inr (.inl g1)))))] ∧ r = some (.int v))) (tt_OX (fun _ _ _ => False)) := by
  refine jj_startW hl (by decide) jw_df05153913 (jj_le rfl) ?_
  intro p e s m args below meth c A hargs hA C htab hmn
  have lp1 := tt_lo p1
  have up1 := tt_hi p1
  refine jj_aload_n C dL_share_0 rfl ?_
  refine jj_iconst (v := 0) C dL_share_1 (by decide) ?_
  refine jj_aload_n C dL_share_2 rfl ?_
  refine jj_iload_n C dL_share_3 rfl ?_
  obtain ⟨qc, gs, hqc⟩ := tt_recv (cx := []) hok hk0 (by decide) rfl
  refine tt_callV (rest := [.int 0, .ref ho]) C (tc_X10_share_1 hl D cA ak h0 p1 hk0 hok) [] [0] rfl rfl (by decide) (by decide) (by decide) qc hqc rfl rfl jw_b6b1bb001e jw_49d22693e1 jw_3be8210133 jw_6f6d707074 jw_108abeeede jn_X10_share rfl (jj_le rfl) (jj_le rfl) (jj_le rfl) (jj_le rfl) (jj_le rfl) dL_share_4 rfl (fun E rx pl_1 X_5 => ?_) (fun rx pl_1 r O_4 => ?_)
  · obtain ⟨rfl, hok_2, hr_3, hfa9, hE⟩ := X_5
    rcases hE with rfl | rfl
    · refine jj_catch C [(⟨0, 8, 11, 25⟩ : ExceptionTableEntry)] (⟨0, 8, 14, 82⟩ : ExceptionTableEntry) [] (htab.trans rfl) (fun z hz => by rcases List.mem_cons.mp hz with rfl | hz; exact Or.inr ⟨by decide, "java/lang/IndexOutOfBoundsException", jw_3b9ee68727, by decide +kernel⟩; cases hz) (by decide) (by decide) jw_beeb034c2f (by decide +kernel) (fun q9 => ?_)
      refine jj_astore_n C dL_share_14 (by decide) rfl ?_
      refine jj_iconst (v := 2) C dL_share_15 (by decide) ?_
      exact jj_iret C ⟨[_], pl_1, rfl, Kd, (tt_ex.refl _), hok_2, (hr_3.sub (by decide)), (hfa9.sub (by decide)), _, (2 : Int32), rfl, rfl⟩ dL_share_16 (jj_le rfl) (jj_le rfl)
    · refine jj_catch C [] (⟨0, 8, 11, 25⟩ : ExceptionTableEntry) [(⟨0, 8, 14, 82⟩ : ExceptionTableEntry)] (htab.trans rfl) (fun z hz => by cases hz) (by decide) (by decide) jw_3b9ee68727 (by decide +kernel) (fun q9 => ?_)
      refine jj_astore_n C dL_share_11 (by decide) rfl ?_
      refine jj_iconst (v := 1) C dL_share_12 (by decide) ?_
      exact jj_iret C ⟨[_], pl_1, rfl, Kd, (tt_ex.refl _), hok_2, (hr_3.sub (by decide)), (hfa9.sub (by decide)), _, (1 : Int32), rfl, rfl⟩ dL_share_13 (jj_le rfl) (jj_le rfl)
  · obtain ⟨rfl, hok_2, hr_3, hfa9, hR_8⟩ := O_4
    obtain ⟨w_9, -, -, rfl⟩ := hR_8
    refine jj_dast C 0 rfl (vp_in_iff.mpr (by decide)) (g := (vf_upd g0 0 w_9)) rfl rfl dL_share_7 ?_
    refine jj_goto (tgt := 17) C dL_share_8 (by decide) ?_
    refine jj_iconst (v := 0) C dL_share_17 (by decide) ?_
    exact jj_iret C ⟨[_], pl_1, rfl, Kd, (tt_ex.refl _), hok_2, (hr_3.sub (by decide)), (hfa9.sub (by decide)), _, (0 : Int32), rfl, rfl⟩ dL_share_18 (jj_le rfl) (jj_le rfl)

set_option maxHeartbeats 4000000 in
set_option maxRecDepth 100000 in
theorem lm_subscribe {l : Launch} (hl : l.stackTraces = false) (D : va_G) (cA : Nat → ClassId) (ak : (Nat → Nat) × (Nat → Nat)) {Kd : Nat → Nat} (h0 ho : Nat) (p1 : Int32) (p2 : Int32) (g0 : Nat → Int64) (hk0 : Kd h0 = 15) {pl0 : va_W} (hok : tt_ok tt_tk cA Kd pl0) : jj_M l D cA ak yL_subscribe (.codeWith yL_subscribe cL_subscribe 5 (some .int) [(0, 10, 13, 25), (0, 10, 17, 19), (0, 10, 21, 13)]) 8 124 63 408 ([(ho, .inl (cA 2, 1, .inr (.inl g0)))] ++ pl0) [.ref h0, .int p1, .int p2, .ref ho] (tt_O (fun rx pl1 r => ∃ K1 : Nat → Nat, tt_ex Kd K1 ∧ tt_ok tt_tk cA K1 pl1 ∧ tt_fr Kd [(1, 0), (1, 1), (1, 2), (1, 3), (1, 4), (1, 5), (1, 6), (1, 7), (1, 8), (1, 9), (2, 0), (2, 1), (2, 2), (2, 3), (2, 4), (3, 0), (3, 1), (3, 2), (3, 3), (3, 4), (3, 5), (4, 0), (4, 1), (4, 2), (4, 3), (4, 4), (15, 7), (15, 8)] pl0 pl1 ∧ tt_fa Kd [5] pl0 pl1 ∧ ∃ (g1 : Nat → Int64) (v : Int32), rx = [(ho, .inl (cA 2, 1, .inr (.inl g1)))] ∧ r = some (.int v))) (tt_OX (fun _ _ _ => False)) := by
  refine jj_startW hl (by decide) jw_28bba61b96 (jj_le rfl) ?_
  intro p e s m args below meth c A hargs hA C htab hmn
  have lp1 := tt_lo p1
  have up1 := tt_hi p1
  have lp2 := tt_lo p2
  have up2 := tt_hi p2
  refine jj_aload_n C dL_subscribe_0 rfl ?_
  refine jj_iconst (v := 0) C dL_subscribe_1 (by decide) ?_
  refine jj_aload_n C dL_subscribe_2 rfl ?_
  refine jj_iload_n C dL_subscribe_3 rfl ?_
  refine jj_iload_n C dL_subscribe_4 rfl ?_
  obtain ⟨qc, gs, hqc⟩ := tt_recv (cx := []) hok hk0 (by decide) rfl
  refine tt_callV (rest := [.int 0, .ref ho]) C (tc_X10_subscribe_1 hl D cA ak h0 p1 p2 hk0 hok) [] [0] rfl rfl (by decide) (by decide) (by decide) qc hqc rfl rfl jw_94b7049fd7 jw_2037e7d560 jw_843724dd5d jw_6f6d707074 jw_7347c5ace4 jn_X10_subscribe rfl (jj_le rfl) (jj_le rfl) (jj_le rfl) (jj_le rfl) (jj_le rfl) dL_subscribe_5 rfl (fun E rx pl_1 X_5 => ?_) (fun rx pl_1 r O_4 => ?_)
  · obtain ⟨rfl, hok_2, hr_3, hfa9, hE⟩ := X_5
    rcases hE with rfl | rfl | rfl
    · refine jj_catch C [(⟨0, 10, 13, 25⟩ : ExceptionTableEntry)] (⟨0, 10, 17, 19⟩ : ExceptionTableEntry) [(⟨0, 10, 21, 13⟩ : ExceptionTableEntry)] (htab.trans rfl) (fun z hz => by rcases List.mem_cons.mp hz with rfl | hz; exact Or.inr ⟨by decide, "java/lang/IndexOutOfBoundsException", jw_3b9ee68727, by decide +kernel⟩; cases hz) (by decide) (by decide) jw_bcdf9cc9d5 (by decide +kernel) (fun q9 => ?_)
      refine jj_astore C dL_subscribe_17 (by decide) rfl ?_
      refine jj_iconst (v := 2) C dL_subscribe_19 (by decide) ?_
      exact jj_iret C ⟨[_], pl_1, rfl, Kd, (tt_ex.refl _), hok_2, (hr_3.sub (by decide)), (hfa9.sub (by decide)), _, (2 : Int32), rfl, rfl⟩ dL_subscribe_20 (jj_le rfl) (jj_le rfl)
    · refine jj_catch C [(⟨0, 10, 13, 25⟩ : ExceptionTableEntry), (⟨0, 10, 17, 19⟩ : ExceptionTableEntry)] (⟨0, 10, 21, 13⟩ : ExceptionTableEntry) [] (htab.trans rfl) (fun z hz => by rcases List.mem_cons.mp hz with rfl | hz; exact Or.inr ⟨by decide, "java/lang/IndexOutOfBoundsException", jw_3b9ee68727, by decide +kernel⟩; rcases List.mem_cons.mp hz with rfl | hz; exact Or.inr ⟨by decide, "java/lang/IllegalArgumentException", jw_bcdf9cc9d5, by decide +kernel⟩; cases hz) (by decide) (by decide) jw_98767da53c (by decide +kernel) (fun q9 => ?_)
      refine jj_astore C dL_subscribe_21 (by decide) rfl ?_
      refine jj_iconst (v := 3) C dL_subscribe_23 (by decide) ?_
      exact jj_iret C ⟨[_], pl_1, rfl, Kd, (tt_ex.refl _), hok_2, (hr_3.sub (by decide)), (hfa9.sub (by decide)), _, (3 : Int32), rfl, rfl⟩ dL_subscribe_24 (jj_le rfl) (jj_le rfl)
    · refine jj_catch C [] (⟨0, 10, 13, 25⟩ : ExceptionTableEntry) [(⟨0, 10, 17, 19⟩ : ExceptionTableEntry), (⟨0, 10, 21, 13⟩ : ExceptionTableEntry)] (htab.trans rfl) (fun z hz => by cases hz) (by decide) (by decide) jw_3b9ee68727 (by decide +kernel) (fun q9 => ?_)
      refine jj_astore C dL_subscribe_13 (by decide) rfl ?_
      refine jj_iconst (v := 1) C dL_subscribe_15 (by decide) ?_
      exact jj_iret C ⟨[_], pl_1, rfl, Kd, (tt_ex.refl _), hok_2, (hr_3.sub (by decide)), (hfa9.sub (by decide)), _, (1 : Int32), rfl, rfl⟩ dL_subscribe_16 (jj_le rfl) (jj_le rfl)
  · obtain ⟨K_6, hx_7, rfl, hok_2, hr_3, hfa9, hR_8⟩ := O_4
    rcases hR_8 with ⟨-, -, -, -, rfl⟩ | ⟨x_9, -, -, -, -, -, -, rfl⟩
    · refine jj_i2l (v := 11) C dL_subscribe_8 (by decide) ?_
      refine jj_last C 0 rfl (vp_in_iff.mpr (by decide)) (g := (vp_updL g0 0 (11 : Int64))) rfl rfl dL_subscribe_9 ?_
      refine jj_goto (tgt := 25) C dL_subscribe_10 (by decide) ?_
      refine jj_iconst (v := 0) C dL_subscribe_25 (by decide) ?_
      exact jj_iret C ⟨[_], pl_1, rfl, K_6, hx_7, hok_2, (hr_3.sub (by decide)), (hfa9.sub (by decide)), _, (0 : Int32), rfl, rfl⟩ dL_subscribe_26 (jj_le rfl) (jj_le rfl)
    · have lq_x_9 := tt_lo x_9
      have uq_x_9 := tt_hi x_9
      obtain ⟨y_10, ey_10, vy_10⟩ := tt_i2l x_9
      refine jj_i2l (v := y_10) C dL_subscribe_8 ey_10 ?_
      refine jj_last C 0 rfl (vp_in_iff.mpr (by decide)) (g := (vp_updL g0 0 y_10)) rfl rfl dL_subscribe_9 ?_
      refine jj_goto (tgt := 25) C dL_subscribe_10 (by decide) ?_
      refine jj_iconst (v := 0) C dL_subscribe_25 (by decide) ?_
      exact jj_iret C ⟨[_], pl_1, rfl, K_6, hx_7, hok_2, (hr_3.sub (by decide)), (hfa9.sub (by decide)), _, (0 : Int32), rfl, rfl⟩ dL_subscribe_26 (jj_le rfl) (jj_le rfl)

set_option maxHeartbeats 4000000 in
set_option maxRecDepth 100000 in
theorem lm_transfer {l : Launch} (hl : l.stackTraces = false) (D : va_G) (cA : Nat → ClassId) (ak : (Nat → Nat) × (Nat → Nat)) {Kd : Nat → Nat} (h0 ho : Nat) (p1 : Int32) (p2 : Int32) (p3 : Int32) (g0 : Nat → Int64) (hk0 : Kd h0 = 15) {pl0 : va_W} (hok : tt_ok tt_tk cA Kd pl0) : jj_M l D cA ak yL_transfer (.codeWith yL_transfer cL_transfer 6 (some .int) [(0, 11, 14, 25), (0, 11, 18, 19), (0, 11, 22, 13)]) 8 132 63 408 ([(ho, .inl (cA 2, 1, .inr (.inl g0)))] ++ pl0) [.ref h0, .int p1, .int p2, .int p3, .ref ho] (tt_O (fun rx pl1 r => ∃ K1 : Nat → Nat, tt_ex Kd K1 ∧ tt_ok tt_tk cA K1 pl1 ∧ tt_fr Kd [(1, 0), (1, 1), (1, 2), (1, 3), (1, 4), (1, 5), (1, 6), (1, 7), (1, 8), (1, 9), (2, 0), (2, 1), (2, 2), (2, 3), (2, 4), (3, 0), (3, 1), (3, 2), (3, 3), (3, 4), (3, 5), (4, 0), (4, 1), (4, 2), (4, 3), (4, 4), (15, 7), (15, 8)] pl0 pl1 ∧ tt_fa Kd [5] pl0 pl1 ∧ ∃ (g1 : Nat → Int64) (v : Int32), rx = [(ho, .inl (cA 2, 1, .inr (.inl g1)))] ∧ r = some (.int v))) (tt_OX (fun _ _ _ => False)) := by
  refine jj_startW hl (by decide) jw_22302afebd (jj_le rfl) ?_
  intro p e s m args below meth c A hargs hA C htab hmn
  have lp1 := tt_lo p1
  have up1 := tt_hi p1
  have lp2 := tt_lo p2
  have up2 := tt_hi p2
  have lp3 := tt_lo p3
  have up3 := tt_hi p3
  refine jj_aload C dL_transfer_0 rfl ?_
  refine jj_iconst (v := 0) C dL_transfer_2 (by decide) ?_
  refine jj_aload_n C dL_transfer_3 rfl ?_
  refine jj_iload_n C dL_transfer_4 rfl ?_
  refine jj_iload_n C dL_transfer_5 rfl ?_
  refine jj_iload_n C dL_transfer_6 rfl ?_
  obtain ⟨qc, gs, hqc⟩ := tt_recv (cx := []) hok hk0 (by decide) rfl
  refine tt_callV (rest := [.int 0, .ref ho]) C (tc_X10_transfer_1 hl D cA ak h0 p1 p2 p3 hk0 hok) [] [0] rfl rfl (by decide) (by decide) (by decide) qc hqc rfl rfl jw_0a178dbbf7 jw_c1b570b7f5 jw_b7aa79b4f9 jw_6f6d707074 jw_7f799eb846 jn_X10_transfer rfl (jj_le rfl) (jj_le rfl) (jj_le rfl) (jj_le rfl) (jj_le rfl) dL_transfer_7 rfl (fun E rx pl_1 X_5 => ?_) (fun rx pl_1 r O_4 => ?_)
  · obtain ⟨rfl, hok_2, hr_3, hfa9, hE⟩ := X_5
    rcases hE with rfl | rfl | rfl
    · refine jj_catch C [(⟨0, 11, 14, 25⟩ : ExceptionTableEntry)] (⟨0, 11, 18, 19⟩ : ExceptionTableEntry) [(⟨0, 11, 22, 13⟩ : ExceptionTableEntry)] (htab.trans rfl) (fun z hz => by rcases List.mem_cons.mp hz with rfl | hz; exact Or.inr ⟨by decide, "java/lang/IndexOutOfBoundsException", jw_3b9ee68727, by decide +kernel⟩; cases hz) (by decide) (by decide) jw_bcdf9cc9d5 (by decide +kernel) (fun q9 => ?_)
      refine jj_astore C dL_transfer_18 (by decide) rfl ?_
      refine jj_iconst (v := 2) C dL_transfer_20 (by decide) ?_
      exact jj_iret C ⟨[_], pl_1, rfl, Kd, (tt_ex.refl _), hok_2, (hr_3.sub (by decide)), (hfa9.sub (by decide)), _, (2 : Int32), rfl, rfl⟩ dL_transfer_21 (jj_le rfl) (jj_le rfl)
    · refine jj_catch C [(⟨0, 11, 14, 25⟩ : ExceptionTableEntry), (⟨0, 11, 18, 19⟩ : ExceptionTableEntry)] (⟨0, 11, 22, 13⟩ : ExceptionTableEntry) [] (htab.trans rfl) (fun z hz => by rcases List.mem_cons.mp hz with rfl | hz; exact Or.inr ⟨by decide, "java/lang/IndexOutOfBoundsException", jw_3b9ee68727, by decide +kernel⟩; rcases List.mem_cons.mp hz with rfl | hz; exact Or.inr ⟨by decide, "java/lang/IllegalArgumentException", jw_bcdf9cc9d5, by decide +kernel⟩; cases hz) (by decide) (by decide) jw_98767da53c (by decide +kernel) (fun q9 => ?_)
      refine jj_astore C dL_transfer_22 (by decide) rfl ?_
      refine jj_iconst (v := 3) C dL_transfer_24 (by decide) ?_
      exact jj_iret C ⟨[_], pl_1, rfl, Kd, (tt_ex.refl _), hok_2, (hr_3.sub (by decide)), (hfa9.sub (by decide)), _, (3 : Int32), rfl, rfl⟩ dL_transfer_25 (jj_le rfl) (jj_le rfl)
    · refine jj_catch C [] (⟨0, 11, 14, 25⟩ : ExceptionTableEntry) [(⟨0, 11, 18, 19⟩ : ExceptionTableEntry), (⟨0, 11, 22, 13⟩ : ExceptionTableEntry)] (htab.trans rfl) (fun z hz => by cases hz) (by decide) (by decide) jw_3b9ee68727 (by decide +kernel) (fun q9 => ?_)
      refine jj_astore C dL_transfer_14 (by decide) rfl ?_
      refine jj_iconst (v := 1) C dL_transfer_16 (by decide) ?_
      exact jj_iret C ⟨[_], pl_1, rfl, Kd, (tt_ex.refl _), hok_2, (hr_3.sub (by decide)), (hfa9.sub (by decide)), _, (1 : Int32), rfl, rfl⟩ dL_transfer_17 (jj_le rfl) (jj_le rfl)
  · obtain ⟨K_6, hx_7, rfl, hok_2, hr_3, hfa9, hR_8⟩ := O_4
    obtain ⟨y_9, -, -, -, -, -, -, rfl⟩ := hR_8
    refine jj_last C 0 rfl (vp_in_iff.mpr (by decide)) (g := (vp_updL g0 0 y_9)) rfl rfl dL_transfer_10 ?_
    refine jj_goto (tgt := 26) C dL_transfer_11 (by decide) ?_
    refine jj_iconst (v := 0) C dL_transfer_26 (by decide) ?_
    exact jj_iret C ⟨[_], pl_1, rfl, K_6, hx_7, hok_2, (hr_3.sub (by decide)), (hfa9.sub (by decide)), _, (0 : Int32), rfl, rfl⟩ dL_transfer_27 (jj_le rfl) (jj_le rfl)

set_option maxHeartbeats 4000000 in
set_option maxRecDepth 100000 in
theorem lm_truncateText {l : Launch} (hl : l.stackTraces = false) (D : va_G) (cA : Nat → ClassId) (ak : (Nat → Nat) × (Nat → Nat)) {Kd : Nat → Nat} (h0 ho : Nat) (at0 : Nat) (p1 : Int32) (x : Int32) (g0 : Nat → Int64) (hk0 : Kd h0 = 15) (hk1 : Kd at0 = 10) (lx : 0 ≤ x.toInt) (ux : x.toInt ≤ 400) {pl0 : va_W} (hok : tt_ok tt_tk cA Kd pl0) (ha0 : tt_at pl0 h0 0 (.ref at0)) (hf0 : tt_at pl0 at0 1 (.int x)) : jj_M l D cA ak yL_truncateText (.codeWith yL_truncateText cL_truncateText 4 (some .int) [(0, 9, 12, 19)]) 7 103 1 6 ([(ho, .inl (cA 2, 1, .inr (.inl g0)))] ++ pl0) [.ref h0, .int p1, .ref ho] (tt_O (fun rx pl1 r => tt_ok tt_tk cA Kd pl1 ∧ tt_fr Kd [(10, 1)] pl0 pl1 ∧ tt_fa Kd [] pl0 pl1 ∧ ((0 ≤ p1.toInt ∧ p1.toInt ≤ x.toInt ∧ tt_at pl1 at0 1 (.int p1) ∧ rx = [(ho, .inl (cA 2, 1, .inr (.inl (vp_updL g0 0 p1.toInt64))))] ∧ r = some (.int 0)) ∨ ((p1.toInt < 0 ∨ x.toInt < p1.toInt) ∧ tt_at pl1 at0 1 (.int x) ∧ rx = [(ho, .inl (cA 2, 1, .inr (.inl g0)))] ∧ r = some (.int 1))))) (tt_OX (fun _ _ _ => False)) := by
  refine jj_startW hl (by decide) jw_20a52f5034 (jj_le rfl) ?_
  intro p e s m args below meth c A hargs hA C htab hmn
  have lp1 := tt_lo p1
  have up1 := tt_hi p1
  refine jj_aload_n C dL_truncateText_0 rfl ?_
  refine jj_iconst (v := 0) C dL_truncateText_1 (by decide) ?_
  refine jj_aload_n C dL_truncateText_2 rfl ?_
  refine jj_iload_n C dL_truncateText_3 rfl ?_
  obtain ⟨qc, gs, hqc⟩ := tt_recv (cx := []) hok hk0 (by decide) rfl
  refine tt_callV (rest := [.int 0, .ref ho]) C (tf_truncateText hl D cA ak h0 at0 p1 x hk0 hk1 lx ux hok ha0 hf0) [] [0] rfl rfl (by decide) (by decide) (by decide) qc hqc rfl rfl jw_204fe82658 jw_543edc65f6 jw_ee12d9d0f5 jw_6f6d707074 jw_be9ea47be0 jn_X10_truncateText rfl (jj_le rfl) (jj_le rfl) (jj_le rfl) (jj_le rfl) (jj_le rfl) dL_truncateText_4 rfl (fun E rx pl_1 X_5 => ?_) (fun rx pl_1 r O_4 => ?_)
  · obtain ⟨rfl, hok_2, hr_3, hfa9, hE⟩ := X_5
    obtain ⟨hq1, rfl, hq2⟩ := hE
    refine jj_catch C [] (⟨0, 9, 12, 19⟩ : ExceptionTableEntry) [] (htab.trans rfl) (fun z hz => by cases hz) (by decide) (by decide) jw_bcdf9cc9d5 (by decide +kernel) (fun q9 => ?_)
    refine jj_astore_n C dL_truncateText_12 (by decide) rfl ?_
    refine jj_iconst (v := 1) C dL_truncateText_13 (by decide) ?_
    exact jj_iret C ⟨[_], pl_1, rfl, hok_2, (hr_3.sub (by decide)), (hfa9.sub (by decide)), Or.inr ⟨hq1, hq2, rfl, rfl⟩⟩ dL_truncateText_14 (jj_le rfl) (jj_le rfl)
  · obtain ⟨rfl, hok_2, hr_3, hfa9, hR_8⟩ := O_4
    obtain ⟨hq1, hq2, hq3, rfl⟩ := hR_8
    have lq_p1 := tt_lo p1
    have uq_p1 := tt_hi p1
    obtain ⟨y_9, ey_9, vy_9⟩ := tt_i2l p1
    refine jj_i2l (v := y_9) C dL_truncateText_7 ey_9 ?_
    refine jj_last C 0 rfl (vp_in_iff.mpr (by decide)) (g := (vp_updL g0 0 y_9)) rfl rfl dL_truncateText_8 ?_
    refine jj_goto (tgt := 15) C dL_truncateText_9 (by decide) ?_
    refine jj_iconst (v := 0) C dL_truncateText_15 (by decide) ?_
    exact jj_iret C ⟨[_], pl_1, rfl, hok_2, (hr_3.sub (by decide)), (hfa9.sub (by decide)), Or.inl ⟨hq1, hq2, hq3, (by rw [ey_9]), rfl⟩⟩ dL_truncateText_16 (jj_le rfl) (jj_le rfl)

set_option maxHeartbeats 4000000 in
set_option maxRecDepth 100000 in
theorem lm_undo {l : Launch} (hl : l.stackTraces = false) (D : va_G) (cA : Nat → ClassId) (ak : (Nat → Nat) × (Nat → Nat)) {Kd : Nat → Nat} (h0 ho : Nat) (g0 : Nat → Int64) (hk0 : Kd h0 = 15) {pl0 : va_W} (hok : tt_ok tt_tk cA Kd pl0) : jj_M l D cA ak yL_undo (.codeWith yL_undo cL_undo 3 (some .int) [(0, 8, 11, 13)]) 7 102 1 6 ([(ho, .inl (cA 2, 1, .inr (.inl g0)))] ++ pl0) [.ref h0, .ref ho] (tt_O (fun rx pl1 r => ∃ K1 : Nat → Nat, tt_ex Kd K1 ∧ tt_ok tt_tk cA K1 pl1 ∧ tt_fr Kd [(1, 0), (1, 1), (1, 2), (1, 3), (1, 4), (1, 5), (1, 6), (1, 7), (1, 8), (1, 9), (2, 0), (2, 1), (2, 2), (2, 3), (2, 4), (3, 0), (3, 1), (3, 2), (3, 3), (3, 4), (3, 5), (4, 0), (4, 1), (4, 2), (4, 3), (4, 4), (15, 7), (15, 8)] pl0 pl1 ∧ tt_fa Kd [5] pl0 pl1 ∧ ∃ (g1 : Nat → Int64) (v : Int32), rx = [(ho, .inl (cA 2, 1, .inr (.inl g1)))] ∧ r = some (.int v))) (tt_OX (fun _ _ _ => False)) := by
  refine jj_startW hl (by decide) jw_c5bba28514 (jj_le rfl) ?_
  intro p e s m args below meth c A hargs hA C htab hmn
  refine jj_aload_n C dL_undo_0 rfl ?_
  refine jj_iconst (v := 0) C dL_undo_1 (by decide) ?_
  refine jj_aload_n C dL_undo_2 rfl ?_
  obtain ⟨qc, gs, hqc⟩ := tt_recv (cx := []) hok hk0 (by decide) rfl
  refine tt_callV (rest := [.int 0, .ref ho]) C (tc_X10_undo_1 hl D cA ak h0 hk0 hok) [] [0] rfl rfl (by decide) (by decide) (by decide) qc hqc rfl rfl jw_e9e76a7b48 jw_79dfa11b66 jw_fcf2ead5be jw_6f6d707074 jw_a04efaf693 jn_X10_undo rfl (jj_le rfl) (jj_le rfl) (jj_le rfl) (jj_le rfl) (jj_le rfl) dL_undo_3 rfl (fun E rx pl_1 X_5 => ?_) (fun rx pl_1 r O_4 => ?_)
  · obtain ⟨rfl, hok_2, hr_3, hfa9, hE⟩ := X_5
    obtain rfl := hE
    refine jj_catch C [] (⟨0, 8, 11, 13⟩ : ExceptionTableEntry) [] (htab.trans rfl) (fun z hz => by cases hz) (by decide) (by decide) jw_98767da53c (by decide +kernel) (fun q9 => ?_)
    refine jj_astore_n C dL_undo_11 (by decide) rfl ?_
    refine jj_iconst (v := 1) C dL_undo_12 (by decide) ?_
    exact jj_iret C ⟨[_], pl_1, rfl, Kd, (tt_ex.refl _), hok_2, (hr_3.sub (by decide)), (hfa9.sub (by decide)), _, (1 : Int32), rfl, rfl⟩ dL_undo_13 (jj_le rfl) (jj_le rfl)
  · obtain ⟨rfl, hok_2, hr_3, hfa9, hR_8⟩ := O_4
    obtain ⟨x_9, -, -, rfl⟩ := hR_8
    have lq_x_9 := tt_lo x_9
    have uq_x_9 := tt_hi x_9
    obtain ⟨y_10, ey_10, vy_10⟩ := tt_i2l x_9
    refine jj_i2l (v := y_10) C dL_undo_6 ey_10 ?_
    refine jj_last C 0 rfl (vp_in_iff.mpr (by decide)) (g := (vp_updL g0 0 y_10)) rfl rfl dL_undo_7 ?_
    refine jj_goto (tgt := 14) C dL_undo_8 (by decide) ?_
    refine jj_iconst (v := 0) C dL_undo_14 (by decide) ?_
    exact jj_iret C ⟨[_], pl_1, rfl, Kd, (tt_ex.refl _), hok_2, (hr_3.sub (by decide)), (hfa9.sub (by decide)), _, (0 : Int32), rfl, rfl⟩ dL_undo_15 (jj_le rfl) (jj_le rfl)

set_option maxHeartbeats 4000000 in
set_option maxRecDepth 100000 in
theorem lm_unitsOf {l : Launch} (hl : l.stackTraces = false) (D : va_G) (cA : Nat → ClassId) (ak : (Nat → Nat) × (Nat → Nat)) {Kd : Nat → Nat} (h0 ho : Nat) (p1 : Int32) (g0 : Nat → Int64) (hk0 : Kd h0 = 15) {pl0 : va_W} (hok : tt_ok tt_tk cA Kd pl0) : jj_M l D cA ak yL_unitsOf (.codeWith yL_unitsOf cL_unitsOf 4 (some .int) [(0, 8, 11, 25)]) 9 144 1 6 ([(ho, .inl (cA 2, 1, .inr (.inl g0)))] ++ pl0) [.ref h0, .int p1, .ref ho] (tt_O (fun rx pl1 r => ∃ K1 : Nat → Nat, tt_ex Kd K1 ∧ tt_ok tt_tk cA K1 pl1 ∧ tt_fr Kd [] pl0 pl1 ∧ tt_fa Kd [] pl0 pl1 ∧ ∃ (g1 : Nat → Int64) (v : Int32), rx = [(ho, .inl (cA 2, 1, .inr (.inl g1)))] ∧ r = some (.int v))) (tt_OX (fun _ _ _ => False)) := by
  refine jj_startW hl (by decide) jw_b7113859cd (jj_le rfl) ?_
  intro p e s m args below meth c A hargs hA C htab hmn
  have lp1 := tt_lo p1
  have up1 := tt_hi p1
  refine jj_aload_n C dL_unitsOf_0 rfl ?_
  refine jj_iconst (v := 0) C dL_unitsOf_1 (by decide) ?_
  refine jj_aload_n C dL_unitsOf_2 rfl ?_
  refine jj_iload_n C dL_unitsOf_3 rfl ?_
  obtain ⟨qc, gs, hqc⟩ := tt_recv (cx := []) hok hk0 (by decide) rfl
  refine tt_callV (rest := [.int 0, .ref ho]) C (tc_X10_unitsOf_1 hl D cA ak h0 p1 hk0 hok) [] [0] rfl rfl (by decide) (by decide) (by decide) qc hqc rfl rfl jw_b71df4cb8f jw_a8a99550f3 jw_b1f1260dc4 jw_6f6d707074 jw_45a18b951a jn_X10_unitsOf rfl (jj_le rfl) (jj_le rfl) (jj_le rfl) (jj_le rfl) (jj_le rfl) dL_unitsOf_4 rfl (fun E rx pl_1 X_5 => ?_) (fun rx pl_1 r O_4 => ?_)
  · obtain ⟨rfl, hok_2, hr_3, hfa9, hE⟩ := X_5
    obtain rfl := hE
    refine jj_catch C [] (⟨0, 8, 11, 25⟩ : ExceptionTableEntry) [] (htab.trans rfl) (fun z hz => by cases hz) (by decide) (by decide) jw_3b9ee68727 (by decide +kernel) (fun q9 => ?_)
    refine jj_astore_n C dL_unitsOf_11 (by decide) rfl ?_
    refine jj_iconst (v := 1) C dL_unitsOf_12 (by decide) ?_
    exact jj_iret C ⟨[_], pl_1, rfl, Kd, (tt_ex.refl _), hok_2, (hr_3.sub (by decide)), (hfa9.sub (by decide)), _, (1 : Int32), rfl, rfl⟩ dL_unitsOf_13 (jj_le rfl) (jj_le rfl)
  · obtain ⟨rfl, hok_2, hr_3, hfa9, hR_8⟩ := O_4
    obtain ⟨y_9, -, -, rfl⟩ := hR_8
    refine jj_last C 0 rfl (vp_in_iff.mpr (by decide)) (g := (vp_updL g0 0 y_9)) rfl rfl dL_unitsOf_7 ?_
    refine jj_goto (tgt := 14) C dL_unitsOf_8 (by decide) ?_
    refine jj_iconst (v := 0) C dL_unitsOf_14 (by decide) ?_
    exact jj_iret C ⟨[_], pl_1, rfl, Kd, (tt_ex.refl _), hok_2, (hr_3.sub (by decide)), (hfa9.sub (by decide)), _, (0 : Int32), rfl, rfl⟩ dL_unitsOf_15 (jj_le rfl) (jj_le rfl)

set_option maxHeartbeats 4000000 in
set_option maxRecDepth 100000 in
theorem lm_valueOf {l : Launch} (hl : l.stackTraces = false) (D : va_G) (cA : Nat → ClassId) (ak : (Nat → Nat) × (Nat → Nat)) {Kd : Nat → Nat} (h0 ho : Nat) (p1 : Int32) (g0 : Nat → Int64) (hk0 : Kd h0 = 15) {pl0 : va_W} (hok : tt_ok tt_tk cA Kd pl0) : jj_M l D cA ak yL_valueOf (.codeWith yL_valueOf cL_valueOf 4 (some .int) [(0, 8, 11, 25)]) 9 144 1 6 ([(ho, .inl (cA 2, 1, .inr (.inl g0)))] ++ pl0) [.ref h0, .int p1, .ref ho] (tt_O (fun rx pl1 r => ∃ K1 : Nat → Nat, tt_ex Kd K1 ∧ tt_ok tt_tk cA K1 pl1 ∧ tt_fr Kd [(2, 0), (2, 1), (2, 2), (2, 3), (2, 4), (9, 1), (9, 2), (9, 3), (9, 4), (9, 5)] pl0 pl1 ∧ tt_fa Kd [] pl0 pl1 ∧ ∃ (g1 : Nat → Int64) (v : Int32), rx = [(ho, .inl (cA 2, 1, .inr (.inl g1)))] ∧ r = some (.int v))) (tt_OX (fun _ _ _ => False)) := by
  refine jj_startW hl (by decide) jw_fc5a5a0a46 (jj_le rfl) ?_
  intro p e s m args below meth c A hargs hA C htab hmn
  have lp1 := tt_lo p1
  have up1 := tt_hi p1
  refine jj_aload_n C dL_valueOf_0 rfl ?_
  refine jj_iconst (v := 0) C dL_valueOf_1 (by decide) ?_
  refine jj_aload_n C dL_valueOf_2 rfl ?_
  refine jj_iload_n C dL_valueOf_3 rfl ?_
  obtain ⟨qc, gs, hqc⟩ := tt_recv (cx := []) hok hk0 (by decide) rfl
  refine tt_callV (rest := [.int 0, .ref ho]) C (tc_X10_valueOf_1 hl D cA ak h0 p1 hk0 hok) [] [0] rfl rfl (by decide) (by decide) (by decide) qc hqc rfl rfl jw_57716a5634 jw_0efd692f14 jw_201d696cf2 jw_6f6d707074 jw_0fd6256d51 jn_X10_valueOf rfl (jj_le rfl) (jj_le rfl) (jj_le rfl) (jj_le rfl) (jj_le rfl) dL_valueOf_4 rfl (fun E rx pl_1 X_5 => ?_) (fun rx pl_1 r O_4 => ?_)
  · obtain ⟨rfl, hok_2, hr_3, hfa9, hE⟩ := X_5
    obtain rfl := hE
    refine jj_catch C [] (⟨0, 8, 11, 25⟩ : ExceptionTableEntry) [] (htab.trans rfl) (fun z hz => by cases hz) (by decide) (by decide) jw_3b9ee68727 (by decide +kernel) (fun q9 => ?_)
    refine jj_astore_n C dL_valueOf_11 (by decide) rfl ?_
    refine jj_iconst (v := 1) C dL_valueOf_12 (by decide) ?_
    exact jj_iret C ⟨[_], pl_1, rfl, Kd, (tt_ex.refl _), hok_2, (hr_3.sub (by decide)), (hfa9.sub (by decide)), _, (1 : Int32), rfl, rfl⟩ dL_valueOf_13 (jj_le rfl) (jj_le rfl)
  · obtain ⟨rfl, hok_2, hr_3, hfa9, hR_8⟩ := O_4
    obtain ⟨y_9, -, -, rfl⟩ := hR_8
    refine jj_last C 0 rfl (vp_in_iff.mpr (by decide)) (g := (vp_updL g0 0 y_9)) rfl rfl dL_valueOf_7 ?_
    refine jj_goto (tgt := 14) C dL_valueOf_8 (by decide) ?_
    refine jj_iconst (v := 0) C dL_valueOf_14 (by decide) ?_
    exact jj_iret C ⟨[_], pl_1, rfl, Kd, (tt_ex.refl _), hok_2, (hr_3.sub (by decide)), (hfa9.sub (by decide)), _, (0 : Int32), rfl, rfl⟩ dL_valueOf_15 (jj_le rfl) (jj_le rfl)

set_option maxHeartbeats 4000000 in
set_option maxRecDepth 100000 in
theorem lm_withdraw {l : Launch} (hl : l.stackTraces = false) (D : va_G) (cA : Nat → ClassId) (ak : (Nat → Nat) × (Nat → Nat)) {Kd : Nat → Nat} (h0 ho : Nat) (p1 : Int32) (g0 : Nat → Int64) (hk0 : Kd h0 = 15) {pl0 : va_W} (hok : tt_ok tt_tk cA Kd pl0) : jj_M l D cA ak yL_withdraw (.codeWith yL_withdraw cL_withdraw 4 (some .int) [(0, 8, 11, 25)]) 9 146 64 414 ([(ho, .inl (cA 2, 1, .inr (.inl g0)))] ++ pl0) [.ref h0, .int p1, .ref ho] (tt_O (fun rx pl1 r => ∃ K1 : Nat → Nat, tt_ex Kd K1 ∧ tt_ok tt_tk cA K1 pl1 ∧ tt_fr Kd [(1, 0), (1, 1), (1, 2), (1, 3), (1, 4), (1, 5), (1, 6), (1, 7), (1, 8), (1, 9), (2, 0), (2, 1), (2, 2), (2, 3), (2, 4), (3, 0), (3, 1), (3, 2), (3, 3), (3, 4), (3, 5), (4, 0), (4, 1), (4, 2), (4, 3), (4, 4), (15, 7), (15, 8)] pl0 pl1 ∧ tt_fa Kd [5] pl0 pl1 ∧ ∃ (g1 : Nat → Int64) (v : Int32), rx = [(ho, .inl (cA 2, 1, .inr (.inl g1)))] ∧ r = some (.int v))) (tt_OX (fun _ _ _ => False)) := by
  refine jj_startW hl (by decide) jw_e29588f0d8 (jj_le rfl) ?_
  intro p e s m args below meth c A hargs hA C htab hmn
  have lp1 := tt_lo p1
  have up1 := tt_hi p1
  refine jj_aload_n C dL_withdraw_0 rfl ?_
  refine jj_iconst (v := 0) C dL_withdraw_1 (by decide) ?_
  refine jj_aload_n C dL_withdraw_2 rfl ?_
  refine jj_iload_n C dL_withdraw_3 rfl ?_
  obtain ⟨qc, gs, hqc⟩ := tt_recv (cx := []) hok hk0 (by decide) rfl
  refine tt_callV (rest := [.int 0, .ref ho]) C (tc_X10_withdraw_1 hl D cA ak h0 p1 hk0 hok) [] [0] rfl rfl (by decide) (by decide) (by decide) qc hqc rfl rfl jw_04a6955291 jw_b5cc6200cc jw_a24b3c4807 jw_6f6d707074 jw_2960e68e35 jn_X10_withdraw rfl (jj_le rfl) (jj_le rfl) (jj_le rfl) (jj_le rfl) (jj_le rfl) dL_withdraw_4 rfl (fun E rx pl_1 X_5 => ?_) (fun rx pl_1 r O_4 => ?_)
  · obtain ⟨rfl, hok_2, hr_3, hfa9, hE⟩ := X_5
    obtain rfl := hE
    refine jj_catch C [] (⟨0, 8, 11, 25⟩ : ExceptionTableEntry) [] (htab.trans rfl) (fun z hz => by cases hz) (by decide) (by decide) jw_3b9ee68727 (by decide +kernel) (fun q9 => ?_)
    refine jj_astore_n C dL_withdraw_11 (by decide) rfl ?_
    refine jj_iconst (v := 1) C dL_withdraw_12 (by decide) ?_
    exact jj_iret C ⟨[_], pl_1, rfl, Kd, (tt_ex.refl _), hok_2, (hr_3.sub (by decide)), (hfa9.sub (by decide)), _, (1 : Int32), rfl, rfl⟩ dL_withdraw_13 (jj_le rfl) (jj_le rfl)
  · obtain ⟨K_6, hx_7, rfl, hok_2, hr_3, hfa9, hR_8⟩ := O_4
    obtain ⟨y_9, -, -, rfl⟩ := hR_8
    refine jj_last C 0 rfl (vp_in_iff.mpr (by decide)) (g := (vp_updL g0 0 y_9)) rfl rfl dL_withdraw_7 ?_
    refine jj_goto (tgt := 14) C dL_withdraw_8 (by decide) ?_
    refine jj_iconst (v := 0) C dL_withdraw_14 (by decide) ?_
    exact jj_iret C ⟨[_], pl_1, rfl, K_6, hx_7, hok_2, (hr_3.sub (by decide)), (hfa9.sub (by decide)), _, (0 : Int32), rfl, rfl⟩ dL_withdraw_15 (jj_le rfl) (jj_le rfl)

set_option maxHeartbeats 4000000 in
set_option maxRecDepth 100000 in
theorem lm_wouldRedeem {l : Launch} (hl : l.stackTraces = false) (D : va_G) (cA : Nat → ClassId) (ak : (Nat → Nat) × (Nat → Nat)) {Kd : Nat → Nat} (h0 ho : Nat) (p1 : Int32) (g0 : Nat → Int64) (hk0 : Kd h0 = 15) {pl0 : va_W} (hok : tt_ok tt_tk cA Kd pl0) : jj_M l D cA ak yL_wouldRedeem (.codeWith yL_wouldRedeem cL_wouldRedeem 4 (some .int) [(0, 8, 11, 25)]) 9 144 1 6 ([(ho, .inl (cA 2, 1, .inr (.inl g0)))] ++ pl0) [.ref h0, .int p1, .ref ho] (tt_O (fun rx pl1 r => ∃ K1 : Nat → Nat, tt_ex Kd K1 ∧ tt_ok tt_tk cA K1 pl1 ∧ tt_fr Kd [(1, 0), (1, 1), (1, 2), (1, 3), (1, 4), (1, 5), (1, 6), (1, 7), (1, 8), (1, 9), (2, 0), (2, 1), (2, 2), (2, 3), (2, 4), (3, 0), (3, 1), (3, 2), (3, 3), (3, 4), (3, 5), (4, 0), (4, 1), (4, 2), (4, 3), (4, 4), (9, 1), (9, 2), (9, 3), (9, 4), (9, 5)] pl0 pl1 ∧ tt_fa Kd [5] pl0 pl1 ∧ ∃ (g1 : Nat → Int64) (v : Int32), rx = [(ho, .inl (cA 2, 1, .inr (.inl g1)))] ∧ r = some (.int v))) (tt_OX (fun _ _ _ => False)) := by
  refine jj_startW hl (by decide) jw_696dffebec (jj_le rfl) ?_
  intro p e s m args below meth c A hargs hA C htab hmn
  have lp1 := tt_lo p1
  have up1 := tt_hi p1
  refine jj_aload_n C dL_wouldRedeem_0 rfl ?_
  refine jj_iconst (v := 0) C dL_wouldRedeem_1 (by decide) ?_
  refine jj_aload_n C dL_wouldRedeem_2 rfl ?_
  refine jj_iload_n C dL_wouldRedeem_3 rfl ?_
  obtain ⟨qc, gs, hqc⟩ := tt_recv (cx := []) hok hk0 (by decide) rfl
  refine tt_callV (rest := [.int 0, .ref ho]) C (tc_X10_wouldRedeem_1 hl D cA ak h0 p1 hk0 hok) [] [0] rfl rfl (by decide) (by decide) (by decide) qc hqc rfl rfl jw_435f117a9b jw_2b21c464ce jw_8e78db42da jw_6f6d707074 jw_4fd80d1b98 jn_X10_wouldRedeem rfl (jj_le rfl) (jj_le rfl) (jj_le rfl) (jj_le rfl) (jj_le rfl) dL_wouldRedeem_4 rfl (fun E rx pl_1 X_5 => ?_) (fun rx pl_1 r O_4 => ?_)
  · obtain ⟨rfl, hok_2, hr_3, hfa9, hE⟩ := X_5
    obtain rfl := hE
    refine jj_catch C [] (⟨0, 8, 11, 25⟩ : ExceptionTableEntry) [] (htab.trans rfl) (fun z hz => by cases hz) (by decide) (by decide) jw_3b9ee68727 (by decide +kernel) (fun q9 => ?_)
    refine jj_astore_n C dL_wouldRedeem_11 (by decide) rfl ?_
    refine jj_iconst (v := 1) C dL_wouldRedeem_12 (by decide) ?_
    exact jj_iret C ⟨[_], pl_1, rfl, Kd, (tt_ex.refl _), hok_2, (hr_3.sub (by decide)), (hfa9.sub (by decide)), _, (1 : Int32), rfl, rfl⟩ dL_wouldRedeem_13 (jj_le rfl) (jj_le rfl)
  · obtain ⟨rfl, hok_2, hr_3, hfa9, hR_8⟩ := O_4
    rcases hR_8 with ⟨y_9, -, -, rfl⟩ | ⟨-, -, rfl⟩
    · refine jj_last C 0 rfl (vp_in_iff.mpr (by decide)) (g := (vp_updL g0 0 y_9)) rfl rfl dL_wouldRedeem_7 ?_
      refine jj_goto (tgt := 14) C dL_wouldRedeem_8 (by decide) ?_
      refine jj_iconst (v := 0) C dL_wouldRedeem_14 (by decide) ?_
      exact jj_iret C ⟨[_], pl_1, rfl, Kd, (tt_ex.refl _), hok_2, (hr_3.sub (by decide)), (hfa9.sub (by decide)), _, (0 : Int32), rfl, rfl⟩ dL_wouldRedeem_15 (jj_le rfl) (jj_le rfl)
    · refine jj_last C 0 rfl (vp_in_iff.mpr (by decide)) (g := (vp_updL g0 0 (0 : Int64))) rfl rfl dL_wouldRedeem_7 ?_
      refine jj_goto (tgt := 14) C dL_wouldRedeem_8 (by decide) ?_
      refine jj_iconst (v := 0) C dL_wouldRedeem_14 (by decide) ?_
      exact jj_iret C ⟨[_], pl_1, rfl, Kd, (tt_ex.refl _), hok_2, (hr_3.sub (by decide)), (hfa9.sub (by decide)), _, (0 : Int32), rfl, rfl⟩ dL_wouldRedeem_15 (jj_le rfl) (jj_le rfl)
