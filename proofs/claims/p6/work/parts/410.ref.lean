theorem jw_0a65e3738e : Cond.fieldLink RX11 58 "SeriesFundModel" "thrown" "I" ∈ jj_G := jj_t6 (List.mem_of_getElem? (i := 161) (by decide +kernel)) rfl
theorem jw_073e6b6949 : Cond.laysFinal RX11 "SeriesFundModel" "w" "[J" ∈ jj_G := jj_t6 (List.mem_of_getElem? (i := 179) (by decide +kernel)) rfl
theorem jw_49e349c224 : Cond.laysFinal RX11 "SeriesFundModel" "aside" "[J" ∈ jj_G := jj_t6 (List.mem_of_getElem? (i := 181) (by decide +kernel)) rfl
theorem jw_033e1136a6 : Cond.laysFinal RX11 "SeriesFundModel" "thought" "[J" ∈ jj_G := jj_t6 (List.mem_of_getElem? (i := 183) (by decide +kernel)) rfl
theorem jw_04f68a8a79 : Cond.laysFinal RX11 "SeriesFundModel" "inner" "[J" ∈ jj_G := jj_t6 (List.mem_of_getElem? (i := 185) (by decide +kernel)) rfl
theorem jw_02b1fcdd63 : Cond.laysFinal RX11 "SeriesFundModel" "fresh" "[J" ∈ jj_G := jj_t6 (List.mem_of_getElem? (i := 187) (by decide +kernel)) rfl
theorem jw_f0417dd3d4 : Cond.laysFinal RX11 "SeriesFundModel" "past" "[J" ∈ jj_G := jj_t6 (List.mem_of_getElem? (i := 189) (by decide +kernel)) rfl
theorem jw_7370df7ab6 : Cond.lays RX11 "SeriesFundModel" "pastCount" "I" ∈ jj_G := jj_t6 (List.mem_of_getElem? (i := 191) (by decide +kernel)) rfl
theorem jw_3107989eb9 : Cond.lays RX11 "SeriesFundModel" "thrown" "I" ∈ jj_G := jj_t6 (List.mem_of_getElem? (i := 193) (by decide +kernel)) rfl
theorem jw_681d9c9632 : Cond.lays RX11 "SeriesFundModel" "bases" "J" ∈ jj_G := jj_t6 (List.mem_of_getElem? (i := 195) (by decide +kernel)) rfl
theorem jw_a78a3e2630 : Cond.lays RX11 "SeriesFundModel" "payments" "J" ∈ jj_G := jj_t6 (List.mem_of_getElem? (i := 197) (by decide +kernel)) rfl
theorem jw_2172fb1c20 : Cond.laysFinal RX11 "SeriesFundModel" "took" "[J" ∈ jj_G := jj_t6 (List.mem_of_getElem? (i := 199) (by decide +kernel)) rfl
theorem jw_200f8c0822 : Cond.laysFinal RX11 "SeriesFundModel" "isDone" "[Z" ∈ jj_G := jj_t6 (List.mem_of_getElem? (i := 201) (by decide +kernel)) rfl
theorem jw_2d71d322f9 : Cond.laysFinal RX11 "SeriesFundModel" "text" "[B" ∈ jj_G := jj_t6 (List.mem_of_getElem? (i := 203) (by decide +kernel)) rfl
theorem jw_170c14f159 : Cond.lays RX11 "SeriesFundModel" "length" "I" ∈ jj_G := jj_t6 (List.mem_of_getElem? (i := 205) (by decide +kernel)) rfl
theorem jw_e34a871d01 : Cond.lays RX11 "SeriesFundModel" "from" "I" ∈ jj_G := jj_t6 (List.mem_of_getElem? (i := 207) (by decide +kernel)) rfl
theorem jw_f9b7958781 : Cond.lays RX11 "SeriesFundModel" "to" "I" ∈ jj_G := jj_t6 (List.mem_of_getElem? (i := 209) (by decide +kernel)) rfl
theorem jw_8beaa38746 : Cond.lays RX11 "SeriesFundModel" "end" "I" ∈ jj_G := jj_t6 (List.mem_of_getElem? (i := 211) (by decide +kernel)) rfl
theorem jw_1607a4a8ea : Cond.lays RX11 "SeriesFundModel" "fault" "I" ∈ jj_G := jj_t6 (List.mem_of_getElem? (i := 213) (by decide +kernel)) rfl
theorem jw_e5200dd0d2 : Cond.lays RX11 "SeriesFundModel" "faultAt" "I" ∈ jj_G := jj_t6 (List.mem_of_getElem? (i := 215) (by decide +kernel)) rfl
theorem jw_66ba3339a7 : Cond.lays RX11 "SeriesFundModel" "first" "I" ∈ jj_G := jj_t6 (List.mem_of_getElem? (i := 217) (by decide +kernel)) rfl
theorem jw_b2007056ba : Cond.lays RX11 "SeriesFundModel" "second" "I" ∈ jj_G := jj_t6 (List.mem_of_getElem? (i := 219) (by decide +kernel)) rfl
theorem jw_818c0ae8c8 : Cond.laysFinal RX11 "SeriesFundModel" "assetsLeft" "[J" ∈ jj_G := jj_t6 (List.mem_of_getElem? (i := 221) (by decide +kernel)) rfl
theorem jw_47a67436b3 : Cond.laysFinal RX11 "SeriesFundModel" "unitsLeft" "[J" ∈ jj_G := jj_t6 (List.mem_of_getElem? (i := 223) (by decide +kernel)) rfl
theorem jw_4c37a173fe : Cond.laysFinal RX11 "SeriesFundModel" "page" "[B" ∈ jj_G := jj_t6 (List.mem_of_getElem? (i := 225) (by decide +kernel)) rfl
theorem jw_c36b5af374 : Cond.lays RX11 "SeriesFundModel" "pageLength" "I" ∈ jj_G := jj_t6 (List.mem_of_getElem? (i := 227) (by decide +kernel)) rfl
theorem ju_12 : ∀ w ∈ u_ws RX11 TX11 25, w ∈ jj_G := by
  intro w hw
  obtain ⟨k, hk, rfl⟩ := List.mem_map.mp hw
  have hk := List.mem_range.mp hk
  match k, hk with
  | 0, _ => exact jw_073e6b6949
  | 1, _ => exact jw_49e349c224
  | 2, _ => exact jw_033e1136a6
  | 3, _ => exact jw_04f68a8a79
  | 4, _ => exact jw_02b1fcdd63
  | 5, _ => exact jw_f0417dd3d4
  | 6, _ => exact jw_7370df7ab6
  | 7, _ => exact jw_3107989eb9
  | 8, _ => exact jw_681d9c9632
  | 9, _ => exact jw_a78a3e2630
  | 10, _ => exact jw_2172fb1c20
  | 11, _ => exact jw_200f8c0822
  | 12, _ => exact jw_2d71d322f9
  | 13, _ => exact jw_170c14f159
  | 14, _ => exact jw_e34a871d01
  | 15, _ => exact jw_f9b7958781
  | 16, _ => exact jw_8beaa38746
  | 17, _ => exact jw_1607a4a8ea
  | 18, _ => exact jw_e5200dd0d2
  | 19, _ => exact jw_66ba3339a7
  | 20, _ => exact jw_b2007056ba
  | 21, _ => exact jw_818c0ae8c8
  | 22, _ => exact jw_47a67436b3
  | 23, _ => exact jw_4c37a173fe
  | 24, _ => exact jw_c36b5af374
  | n + 25, hk => exact absurd hk (by omega)
theorem jk_12 : jj_K 12 RX11 TX11 25 tyX11 := ⟨rfl, ju_12, tyX11_ok, nmX11⟩
theorem jw_34eaf3ba8b : Cond.fieldLink RX11 7 "SeriesFundModel" "w" "[J" ∈ jj_G := jj_t6 (List.mem_of_getElem? (i := 154) (by decide +kernel)) rfl
theorem jw_2a24feddee : Cond.methodLink RX11 61 yX11_in ∈ jj_G := jj_t7 (List.mem_of_getElem? (i := 122) (by decide +kernel)) rfl
theorem jw_e07c9ada56 : Cond.code yX11_in cX11_in 6 (some .boolean) ∈ jj_G := jj_t7 (List.mem_of_getElem? (i := 124) (by decide +kernel)) rfl
theorem jw_f96c99f44d : Cond.initialized RX11 ∈ jj_G := jj_t1 (List.mem_of_getElem? (i := 9) (by decide +kernel)) rfl
theorem jw_12f28ccfda : Cond.static yX11_in ∈ jj_G := jj_t7 (List.mem_of_getElem? (i := 123) (by decide +kernel)) rfl
theorem jn_X11_in : jj_N yX11_in 3 := by unfold jj_N; decide +kernel
theorem jw_7ef37939ff : Cond.methodLink RX11 65 yX11_isInvestor ∈ jj_G := jj_t7 (List.mem_of_getElem? (i := 143) (by decide +kernel)) rfl
theorem jw_eb28ea56ae : Cond.code yX11_isInvestor cX11_isInvestor 2 (some .boolean) ∈ jj_G := jj_t7 (List.mem_of_getElem? (i := 146) (by decide +kernel)) rfl
theorem jw_26aeef849b : Cond.instanceMethod yX11_isInvestor ∈ jj_G := jj_t7 (List.mem_of_getElem? (i := 145) (by decide +kernel)) rfl
theorem jw_c47596b272 : Cond.selects RX11 yX11_isInvestor yX11_isInvestor ∈ jj_G := jj_pv (q := (yX11_isInvestor, 25)) (by decide +kernel)
theorem jn_X11_isInvestor : jj_N yX11_isInvestor 1 := by unfold jj_N; decide +kernel
theorem jw_9c28fd2e32 : Cond.methodLink RX11 69 yX11_fails ∈ jj_G := jj_t7 (List.mem_of_getElem? (i := 147) (by decide +kernel)) rfl
theorem jw_a520512e18 : Cond.code yX11_fails cX11_fails 3 (some .boolean) ∈ jj_G := jj_t7 (List.mem_of_getElem? (i := 150) (by decide +kernel)) rfl
theorem jw_193b10eb43 : Cond.instanceMethod yX11_fails ∈ jj_G := jj_t7 (List.mem_of_getElem? (i := 149) (by decide +kernel)) rfl
theorem jw_69bbe80566 : Cond.selects RX11 yX11_fails yX11_fails ∈ jj_G := jj_pv (q := (yX11_fails, 25)) (by decide +kernel)
theorem jn_X11_fails : jj_N yX11_fails 2 := by unfold jj_N; decide +kernel
theorem jw_39db7f12ad : Cond.fieldLink RX11 73 "SeriesFundModel" "pastCount" "I" ∈ jj_G := jj_t6 (List.mem_of_getElem? (i := 160) (by decide +kernel)) rfl
theorem jw_6251557f40 : Cond.methodLink RX11 87 yX11_seriesAt ∈ jj_G := jj_t7 (List.mem_of_getElem? (i := 61) (by decide +kernel)) rfl
theorem jw_b2cd40a13f : Cond.static yX11_seriesAt ∈ jj_G := jj_t7 (List.mem_of_getElem? (i := 62) (by decide +kernel)) rfl
theorem jn_X11_seriesAt : jj_N yX11_seriesAt 1 := by unfold jj_N; decide +kernel
theorem jw_4c8c4b88e2 : Cond.methodLink RX11 115 yX11_lotAt ∈ jj_G := jj_t7 (List.mem_of_getElem? (i := 45) (by decide +kernel)) rfl
theorem jw_0fa3e2bccb : Cond.static yX11_lotAt ∈ jj_G := jj_t7 (List.mem_of_getElem? (i := 46) (by decide +kernel)) rfl
theorem jn_X11_lotAt : jj_N yX11_lotAt 1 := by unfold jj_N; decide +kernel
theorem jw_4afadc9e32 : Cond.methodLink RX11 163 yX11_isRedemption ∈ jj_G := jj_t7 (List.mem_of_getElem? (i := 30) (by decide +kernel)) rfl
theorem jw_978e8f4c07 : Cond.code yX11_isRedemption cX11_isRedemption 2 (some .boolean) ∈ jj_G := jj_t7 (List.mem_of_getElem? (i := 33) (by decide +kernel)) rfl
theorem jw_b399766b1e : Cond.methodLink RX11 160 yX11_requestAt ∈ jj_G := jj_t7 (List.mem_of_getElem? (i := 34) (by decide +kernel)) rfl
theorem jw_c583cc9526 : Cond.static yX11_requestAt ∈ jj_G := jj_t7 (List.mem_of_getElem? (i := 35) (by decide +kernel)) rfl
theorem jn_X11_requestAt : jj_N yX11_requestAt 1 := by unfold jj_N; decide +kernel
theorem jw_d8b192ed60 : Cond.instanceMethod yX11_isRedemption ∈ jj_G := jj_t7 (List.mem_of_getElem? (i := 32) (by decide +kernel)) rfl
theorem jw_21f07d63b9 : Cond.selects RX11 yX11_isRedemption yX11_isRedemption ∈ jj_G := jj_pv (q := (yX11_isRedemption, 25)) (by decide +kernel)
theorem jn_X11_isRedemption : jj_N yX11_isRedemption 1 := by unfold jj_N; decide +kernel
theorem jw_f3ff61ad3e : Cond.constantLong RX11 212 (12) ∈ jj_G := jj_t7 (List.mem_of_getElem? (i := 159) (by decide +kernel)) rfl
theorem jw_295437ea71 : Cond.methodLink RX11 220 yX11_isFull ∈ jj_G := jj_t7 (List.mem_of_getElem? (i := 155) (by decide +kernel)) rfl
theorem jw_6b82d6ccbb : Cond.code yX11_isFull cX11_isFull 1 (some .boolean) ∈ jj_G := jj_t7 (List.mem_of_getElem? (i := 158) (by decide +kernel)) rfl
theorem jw_d3b21ae075 : Cond.instanceMethod yX11_isFull ∈ jj_G := jj_t7 (List.mem_of_getElem? (i := 157) (by decide +kernel)) rfl
theorem jw_9b870e1ec6 : Cond.selects RX11 yX11_isFull yX11_isFull ∈ jj_G := jj_pv (q := (yX11_isFull, 25)) (by decide +kernel)
theorem jn_X11_isFull : jj_N yX11_isFull 0 := by unfold jj_N; decide +kernel
theorem jw_71a89613c3 : Cond.methodLink RX11 228 yX11_waitingOf ∈ jj_G := jj_t7 (List.mem_of_getElem? (i := 176) (by decide +kernel)) rfl
theorem jw_afcf941469 : Cond.code yX11_waitingOf cX11_waitingOf 5 (some .long) ∈ jj_G := jj_t7 (List.mem_of_getElem? (i := 179) (by decide +kernel)) rfl
theorem jw_6ea26eaaba : Cond.instanceMethod yX11_waitingOf ∈ jj_G := jj_t7 (List.mem_of_getElem? (i := 178) (by decide +kernel)) rfl
theorem jw_a8d4f4f87c : Cond.selects RX11 yX11_waitingOf yX11_waitingOf ∈ jj_G := jj_pv (q := (yX11_waitingOf, 25)) (by decide +kernel)
theorem jn_X11_waitingOf : jj_N yX11_waitingOf 1 := by unfold jj_N; decide +kernel
theorem jw_d258851c0a : Cond.methodLink RX11 153 yX11_unitsBy ∈ jj_G := jj_t7 (List.mem_of_getElem? (i := 108) (by decide +kernel)) rfl
theorem jw_6f23c3bc30 : Cond.code yX11_unitsBy cX11_unitsBy 5 (some .long) ∈ jj_G := jj_t7 (List.mem_of_getElem? (i := 111) (by decide +kernel)) rfl
theorem jw_53672f19d9 : Cond.instanceMethod yX11_unitsBy ∈ jj_G := jj_t7 (List.mem_of_getElem? (i := 110) (by decide +kernel)) rfl
theorem jw_faff4a546a : Cond.selects RX11 yX11_unitsBy yX11_unitsBy ∈ jj_G := jj_pv (q := (yX11_unitsBy, 25)) (by decide +kernel)
theorem jn_X11_unitsBy : jj_N yX11_unitsBy 1 := by unfold jj_N; decide +kernel
theorem jw_165232ba7c : Cond.fieldLink RX11 310 "SeriesFundModel" "to" "I" ∈ jj_G := jj_t6 (List.mem_of_getElem? (i := 169) (by decide +kernel)) rfl
theorem jw_6446e1fd81 : Cond.fieldLink RX11 313 "SeriesFundModel" "from" "I" ∈ jj_G := jj_t6 (List.mem_of_getElem? (i := 168) (by decide +kernel)) rfl
theorem jw_98db775389 : Cond.methodLink RX11 316 yX11_byteAt ∈ jj_G := jj_t8 (List.mem_of_getElem? (i := 58) (by decide +kernel)) rfl
theorem jw_4737f96f0a : Cond.code yX11_byteAt cX11_byteAt 2 (some .int) ∈ jj_G := jj_t8 (List.mem_of_getElem? (i := 61) (by decide +kernel)) rfl
theorem jw_28b46cb90c : Cond.fieldLink RX11 307 "SeriesFundModel" "end" "I" ∈ jj_G := jj_t6 (List.mem_of_getElem? (i := 170) (by decide +kernel)) rfl
theorem jw_a4b356c796 : Cond.fieldLink RX11 35 "SeriesFundModel" "text" "[B" ∈ jj_G := jj_t6 (List.mem_of_getElem? (i := 166) (by decide +kernel)) rfl
theorem jw_8e26deba02 : Cond.instanceMethod yX11_byteAt ∈ jj_G := jj_t8 (List.mem_of_getElem? (i := 60) (by decide +kernel)) rfl
theorem jw_8ef34ac32e : Cond.selects RX11 yX11_byteAt yX11_byteAt ∈ jj_G := jj_pv (q := (yX11_byteAt, 25)) (by decide +kernel)
theorem jn_X11_byteAt : jj_N yX11_byteAt 1 := by unfold jj_N; decide +kernel
theorem jw_39d46451b9 : Cond.constantLong RX11 319 (97) ∈ jj_G := jj_t8 (List.mem_of_getElem? (i := 62) (by decide +kernel)) rfl
theorem jw_33d5fc8685 : Cond.constantLong RX11 321 (122) ∈ jj_G := jj_t8 (List.mem_of_getElem? (i := 63) (by decide +kernel)) rfl
theorem jw_d6cfdd4319 : Cond.constantLong RX11 323 (48) ∈ jj_G := jj_t8 (List.mem_of_getElem? (i := 64) (by decide +kernel)) rfl
theorem jw_8c7ed3b7a5 : Cond.constantLong RX11 325 (57) ∈ jj_G := jj_t8 (List.mem_of_getElem? (i := 65) (by decide +kernel)) rfl
theorem jw_17e99f0710 : Cond.fieldLink RX11 327 "SeriesFundModel" "fault" "I" ∈ jj_G := jj_t6 (List.mem_of_getElem? (i := 171) (by decide +kernel)) rfl
theorem jw_a8ef26b797 : Cond.fieldLink RX11 39 "SeriesFundModel" "faultAt" "I" ∈ jj_G := jj_t6 (List.mem_of_getElem? (i := 172) (by decide +kernel)) rfl
theorem jw_a1293b44dc : Cond.methodLink RX11 338 yX11_next ∈ jj_G := jj_t8 (List.mem_of_getElem? (i := 54) (by decide +kernel)) rfl
theorem jw_8631b7212c : Cond.code yX11_next cX11_next 1 none ∈ jj_G := jj_t8 (List.mem_of_getElem? (i := 57) (by decide +kernel)) rfl
theorem jw_4cea53ed94 : Cond.instanceMethod yX11_next ∈ jj_G := jj_t8 (List.mem_of_getElem? (i := 56) (by decide +kernel)) rfl
theorem jw_1147b3dbc0 : Cond.selects RX11 yX11_next yX11_next ∈ jj_G := jj_pv (q := (yX11_next, 25)) (by decide +kernel)
theorem jn_X11_next : jj_N yX11_next 0 := by unfold jj_N; decide +kernel
theorem jw_fabf3762b1 : Cond.fieldLink RX11 301 "SeriesFundModel" "length" "I" ∈ jj_G := jj_t6 (List.mem_of_getElem? (i := 167) (by decide +kernel)) rfl
theorem jw_9a85c015b2 : Cond.constantLong RX11 424 (9) ∈ jj_G := jj_t8 (List.mem_of_getElem? (i := 149) (by decide +kernel)) rfl
theorem jw_5892650a06 : Cond.constantLong RX11 416 (5) ∈ jj_G := jj_t8 (List.mem_of_getElem? (i := 131) (by decide +kernel)) rfl
theorem jw_1118ba758b : Cond.methodLink RX11 238 yX11_isNoRequest ∈ jj_G := jj_t7 (List.mem_of_getElem? (i := 184) (by decide +kernel)) rfl
theorem jw_c6d824393d : Cond.code yX11_isNoRequest cX11_isNoRequest 2 (some .boolean) ∈ jj_G := jj_t7 (List.mem_of_getElem? (i := 187) (by decide +kernel)) rfl
theorem jw_4c29d1d481 : Cond.instanceMethod yX11_isNoRequest ∈ jj_G := jj_t7 (List.mem_of_getElem? (i := 186) (by decide +kernel)) rfl
theorem jw_f79fbf9a9e : Cond.selects RX11 yX11_isNoRequest yX11_isNoRequest ∈ jj_G := jj_pv (q := (yX11_isNoRequest, 25)) (by decide +kernel)
theorem jn_X11_isNoRequest : jj_N yX11_isNoRequest 1 := by unfold jj_N; decide +kernel
theorem jw_3ddeacbc7d : Cond.constantLong RX11 414 (3) ∈ jj_G := jj_t8 (List.mem_of_getElem? (i := 130) (by decide +kernel)) rfl
theorem jw_daecd531da : Cond.methodLink RX11 214 yX11_isNoInvestor ∈ jj_G := jj_t7 (List.mem_of_getElem? (i := 139) (by decide +kernel)) rfl
theorem jw_78c857bdda : Cond.code yX11_isNoInvestor cX11_isNoInvestor 2 (some .boolean) ∈ jj_G := jj_t7 (List.mem_of_getElem? (i := 142) (by decide +kernel)) rfl
theorem jw_4e28b3e206 : Cond.instanceMethod yX11_isNoInvestor ∈ jj_G := jj_t7 (List.mem_of_getElem? (i := 141) (by decide +kernel)) rfl
theorem jw_f3a40b16e4 : Cond.selects RX11 yX11_isNoInvestor yX11_isNoInvestor ∈ jj_G := jj_pv (q := (yX11_isNoInvestor, 25)) (by decide +kernel)
theorem jn_X11_isNoInvestor : jj_N yX11_isNoInvestor 1 := by unfold jj_N; decide +kernel
theorem jw_6d1eccde8c : Cond.methodLink RX11 90 yX11_placeOf ∈ jj_G := jj_t7 (List.mem_of_getElem? (i := 57) (by decide +kernel)) rfl
theorem jw_d7a6daa34b : Cond.code yX11_placeOf cX11_placeOf 4 (some .int) ∈ jj_G := jj_t7 (List.mem_of_getElem? (i := 60) (by decide +kernel)) rfl
theorem jw_a9a05b64d9 : Cond.instanceMethod yX11_placeOf ∈ jj_G := jj_t7 (List.mem_of_getElem? (i := 59) (by decide +kernel)) rfl
theorem jw_ee32d85331 : Cond.selects RX11 yX11_placeOf yX11_placeOf ∈ jj_G := jj_pv (q := (yX11_placeOf, 25)) (by decide +kernel)
theorem jn_X11_placeOf : jj_N yX11_placeOf 1 := by unfold jj_N; decide +kernel
theorem jw_f36a3aef63 : Cond.methodLink RX11 431 yX11_heldIn ∈ jj_G := jj_t8 (List.mem_of_getElem? (i := 187) (by decide +kernel)) rfl
theorem jw_f6a1ea64f5 : Cond.code yX11_heldIn cX11_heldIn 8 (some .long) ∈ jj_G := jj_t8 (List.mem_of_getElem? (i := 190) (by decide +kernel)) rfl
theorem jw_ab1c8caae0 : Cond.instanceMethod yX11_heldIn ∈ jj_G := jj_t8 (List.mem_of_getElem? (i := 189) (by decide +kernel)) rfl
theorem jw_683bed708f : Cond.selects RX11 yX11_heldIn yX11_heldIn ∈ jj_G := jj_pv (q := (yX11_heldIn, 25)) (by decide +kernel)
theorem jn_X11_heldIn : jj_N yX11_heldIn 2 := by unfold jj_N; decide +kernel
theorem jw_51c009b58c : Cond.fieldLink RX11 450 "SeriesFundModel" "pageLength" "I" ∈ jj_G := jj_t6 (List.mem_of_getElem? (i := 178) (by decide +kernel)) rfl
theorem jw_31f1259aa4 : Cond.fieldLink RX11 49 "SeriesFundModel" "page" "[B" ∈ jj_G := jj_t6 (List.mem_of_getElem? (i := 177) (by decide +kernel)) rfl
theorem jw_d1b9c9bc08 : Cond.methodLink RX11 83 yX11_no ∈ jj_G := jj_t6 (List.mem_of_getElem? (i := 235) (by decide +kernel)) rfl
theorem jw_db0108e47b : Cond.code yX11_no cX11_no 2 (some .int) ∈ jj_G := jj_t6 (List.mem_of_getElem? (i := 238) (by decide +kernel)) rfl
theorem jw_0a7e47b48e : Cond.instanceMethod yX11_no ∈ jj_G := jj_t6 (List.mem_of_getElem? (i := 237) (by decide +kernel)) rfl
theorem jw_ae3979bf43 : Cond.selects RX11 yX11_no yX11_no ∈ jj_G := jj_pv (q := (yX11_no, 25)) (by decide +kernel)
theorem jn_X11_no : jj_N yX11_no 1 := by unfold jj_N; decide +kernel
theorem jw_b89e52f8b9 : Cond.code yX11_undoDepth cX11_undoDepth 1 (some .int) ∈ jj_G := jj_t7 (List.mem_of_getElem? (i := 2) (by decide +kernel)) rfl
theorem jw_e82ca6f874 : Cond.code yX11_canRedeem cX11_canRedeem 3 (some .boolean) ∈ jj_G := jj_t7 (List.mem_of_getElem? (i := 175) (by decide +kernel)) rfl
theorem jw_6b1a6dabbc : Cond.code yX11_wrong cX11_wrong 2 none ∈ jj_G := jj_t8 (List.mem_of_getElem? (i := 84) (by decide +kernel)) rfl
theorem jw_3d0e41f30f : Cond.code yX11_pass cX11_pass 1 none ∈ jj_G := jj_t8 (List.mem_of_getElem? (i := 88) (by decide +kernel)) rfl
theorem jw_10a65a4ad6 : Cond.code yX11_begin cX11_begin 1 none ∈ jj_G := jj_t8 (List.mem_of_getElem? (i := 53) (by decide +kernel)) rfl
theorem jw_120a4e68f7 : Cond.code yX11_errorCode cX11_errorCode 1 (some .int) ∈ jj_G := jj_t8 (List.mem_of_getElem? (i := 106) (by decide +kernel)) rfl
theorem jw_89585a2ded : Cond.code yX11_errorPosition cX11_errorPosition 1 (some .int) ∈ jj_G := jj_t8 (List.mem_of_getElem? (i := 110) (by decide +kernel)) rfl
theorem jw_56287947ed : Cond.code yX11_count cX11_count 2 (some .int) ∈ jj_G := jj_t8 (List.mem_of_getElem? (i := 148) (by decide +kernel)) rfl
theorem jw_3e9460b5de : Cond.code yX11_account cX11_account 2 (some .long) ∈ jj_G := jj_t8 (List.mem_of_getElem? (i := 157) (by decide +kernel)) rfl
theorem jw_5fffbc3722 : Cond.code yX11_openSeries cX11_openSeries 2 (some .int) ∈ jj_G := jj_t8 (List.mem_of_getElem? (i := 161) (by decide +kernel)) rfl
theorem jw_e3c1929b38 : Cond.code yX11_lot cX11_lot 3 (some .long) ∈ jj_G := jj_t8 (List.mem_of_getElem? (i := 174) (by decide +kernel)) rfl
theorem jw_0cd805615d : Cond.code yX11_request cX11_request 3 (some .long) ∈ jj_G := jj_t8 (List.mem_of_getElem? (i := 178) (by decide +kernel)) rfl
theorem jw_5d965a8869 : Cond.code yX11_unitsOf cX11_unitsOf 2 (some .long) ∈ jj_G := jj_t8 (List.mem_of_getElem? (i := 182) (by decide +kernel)) rfl
theorem jw_34d9bcb912 : Cond.code yX11_holding cX11_holding 3 (some .long) ∈ jj_G := jj_t8 (List.mem_of_getElem? (i := 186) (by decide +kernel)) rfl
theorem jw_fd723a2e27 : Cond.code yX11_reportByte cX11_reportByte 2 (some .int) ∈ jj_G := jj_t9 (List.mem_of_getElem? (i := 54) (by decide +kernel)) rfl
theorem jw_5f822bde56 : Cond.code yX11_truncateText cX11_truncateText 2 (some .int) ∈ jj_G := jj_t8 (List.mem_of_getElem? (i := 45) (by decide +kernel)) rfl
theorem jw_0c87120cfc : Cond.code yX11_lotsIn cX11_lotsIn 5 (some .long) ∈ jj_G := jj_t8 (List.mem_of_getElem? (i := 170) (by decide +kernel)) rfl
set_option maxHeartbeats 4000000 in
set_option maxRecDepth 100000 in
theorem ct_X11_in_1 {l : Launch} (hl : l.stackTraces = false) (D : va_G) (cA : Nat → ClassId) (ak : (Nat → Nat) × (Nat → Nat)) (b0 : Int64) (b1 : Int64) : jj_M l D cA ak yX11_in (.code yX11_in cX11_in 6 (some .boolean)) 0 0 0 0 [] [.long b0, .long 0, .long b1] (fun (w : va_W) (r : Option Value) => (b0 < 0 ∧ w = [] ∧ r = some (.int 0)) ∨ (¬ b0 < 0 ∧ b1 < b0 ∧ w = [] ∧ r = some (.int 0)) ∨ (¬ b0 < 0 ∧ ¬ b1 < b0 ∧ w = [] ∧ r = some (.int 1))) jj_noX := by
  refine jj_start hl (by decide) jw_e07c9ada56 (jj_le rfl) ?_
  intro p e s m args below meth c A hargs hA C hex hmn
  refine jj_lload_n C dX11_in_0 rfl ?_
  refine jj_lload_n C dX11_in_1 rfl ?_
  refine jj_lcmp_lt (tgt := 17) C dX11_in_2 dX11_in_3 (by decide) (fun c_1 => ?_) (fun c_1 => ?_)
  · refine jj_iconst (v := 0) C dX11_in_17 (by decide) ?_
    exact jj_zret C rfl (Or.inl ⟨c_1, rfl, rfl⟩) dX11_in_18 (jj_le rfl) (jj_le rfl)
  · refine jj_lload_n C dX11_in_6 rfl ?_
    refine jj_lload C dX11_in_7 rfl ?_
    refine jj_lcmp_gt (tgt := 17) C dX11_in_9 dX11_in_10 (by decide) (fun c_2 => ?_) (fun c_2 => ?_)
    · refine jj_iconst (v := 0) C dX11_in_17 (by decide) ?_
      exact jj_zret C rfl (Or.inr (Or.inl ⟨c_1, c_2, rfl, rfl⟩)) dX11_in_18 (jj_le rfl) (jj_le rfl)
    · refine jj_iconst (v := 1) C dX11_in_13 (by decide) ?_
      refine jj_goto (tgt := 18) C dX11_in_14 (by decide) ?_
      exact jj_zret C rfl (Or.inr (Or.inr ⟨c_1, c_2, rfl, rfl⟩)) dX11_in_18 (jj_le rfl) (jj_le rfl)

set_option maxHeartbeats 4000000 in
set_option maxRecDepth 100000 in
theorem ct_X11_in_2 {l : Launch} (hl : l.stackTraces = false) (D : va_G) (cA : Nat → ClassId) (ak : (Nat → Nat) × (Nat → Nat)) : jj_M l D cA ak yX11_in (.code yX11_in cX11_in 6 (some .boolean)) 0 0 0 0 [] [.long (-1), .long 97, .long 122] (fun (w : va_W) (r : Option Value) => (w = [] ∧ r = some (.int 0))) jj_noX := by
  refine jj_start hl (by decide) jw_e07c9ada56 (jj_le rfl) ?_
  intro p e s m args below meth c A hargs hA C hex hmn
  refine jj_lload_n C dX11_in_0 rfl ?_
  refine jj_lload_n C dX11_in_1 rfl ?_
  refine jj_lcmp_ltT (tgt := 17) C dX11_in_2 dX11_in_3 (by decide) (by decide) ?_
  refine jj_iconst (v := 0) C dX11_in_17 (by decide) ?_
  exact jj_zret C rfl ⟨rfl, rfl⟩ dX11_in_18 (jj_le rfl) (jj_le rfl)

set_option maxHeartbeats 4000000 in
set_option maxRecDepth 100000 in
theorem ct_X11_in_3 {l : Launch} (hl : l.stackTraces = false) (D : va_G) (cA : Nat → ClassId) (ak : (Nat → Nat) × (Nat → Nat)) : jj_M l D cA ak yX11_in (.code yX11_in cX11_in 6 (some .boolean)) 0 0 0 0 [] [.long (-1), .long 48, .long 57] (fun (w : va_W) (r : Option Value) => (w = [] ∧ r = some (.int 0))) jj_noX := by
  refine jj_start hl (by decide) jw_e07c9ada56 (jj_le rfl) ?_
  intro p e s m args below meth c A hargs hA C hex hmn
  refine jj_lload_n C dX11_in_0 rfl ?_
  refine jj_lload_n C dX11_in_1 rfl ?_
  refine jj_lcmp_ltT (tgt := 17) C dX11_in_2 dX11_in_3 (by decide) (by decide) ?_
  refine jj_iconst (v := 0) C dX11_in_17 (by decide) ?_
  exact jj_zret C rfl ⟨rfl, rfl⟩ dX11_in_18 (jj_le rfl) (jj_le rfl)

set_option maxHeartbeats 4000000 in
set_option maxRecDepth 100000 in
theorem ct_X11_in_4 {l : Launch} (hl : l.stackTraces = false) (D : va_G) (cA : Nat → ClassId) (ak : (Nat → Nat) × (Nat → Nat)) (b0 : Int64) : jj_M l D cA ak yX11_in (.code yX11_in cX11_in 6 (some .boolean)) 0 0 0 0 [] [.long b0, .long 48, .long 57] (fun (w : va_W) (r : Option Value) => (b0 < 48 ∧ w = [] ∧ r = some (.int 0)) ∨ (¬ b0 < 48 ∧ 57 < b0 ∧ w = [] ∧ r = some (.int 0)) ∨ (¬ b0 < 48 ∧ ¬ 57 < b0 ∧ w = [] ∧ r = some (.int 1))) jj_noX := by
  refine jj_start hl (by decide) jw_e07c9ada56 (jj_le rfl) ?_
  intro p e s m args below meth c A hargs hA C hex hmn
  refine jj_lload_n C dX11_in_0 rfl ?_
  refine jj_lload_n C dX11_in_1 rfl ?_
  refine jj_lcmp_lt (tgt := 17) C dX11_in_2 dX11_in_3 (by decide) (fun c_1 => ?_) (fun c_1 => ?_)
  · refine jj_iconst (v := 0) C dX11_in_17 (by decide) ?_
    exact jj_zret C rfl (Or.inl ⟨c_1, rfl, rfl⟩) dX11_in_18 (jj_le rfl) (jj_le rfl)
  · refine jj_lload_n C dX11_in_6 rfl ?_
    refine jj_lload C dX11_in_7 rfl ?_
    refine jj_lcmp_gt (tgt := 17) C dX11_in_9 dX11_in_10 (by decide) (fun c_2 => ?_) (fun c_2 => ?_)
    · refine jj_iconst (v := 0) C dX11_in_17 (by decide) ?_
      exact jj_zret C rfl (Or.inr (Or.inl ⟨c_1, c_2, rfl, rfl⟩)) dX11_in_18 (jj_le rfl) (jj_le rfl)
    · refine jj_iconst (v := 1) C dX11_in_13 (by decide) ?_
      refine jj_goto (tgt := 18) C dX11_in_14 (by decide) ?_
      exact jj_zret C rfl (Or.inr (Or.inr ⟨c_1, c_2, rfl, rfl⟩)) dX11_in_18 (jj_le rfl) (jj_le rfl)

set_option maxHeartbeats 4000000 in
set_option maxRecDepth 100000 in
theorem ct_X11_in_5 {l : Launch} (hl : l.stackTraces = false) (D : va_G) (cA : Nat → ClassId) (ak : (Nat → Nat) × (Nat → Nat)) (b0 : Int64) : jj_M l D cA ak yX11_in (.code yX11_in cX11_in 6 (some .boolean)) 0 0 0 0 [] [.long b0, .long 97, .long 122] (fun (w : va_W) (r : Option Value) => (b0 < 97 ∧ w = [] ∧ r = some (.int 0)) ∨ (¬ b0 < 97 ∧ 122 < b0 ∧ w = [] ∧ r = some (.int 0)) ∨ (¬ b0 < 97 ∧ ¬ 122 < b0 ∧ w = [] ∧ r = some (.int 1))) jj_noX := by
  refine jj_start hl (by decide) jw_e07c9ada56 (jj_le rfl) ?_
  intro p e s m args below meth c A hargs hA C hex hmn
  refine jj_lload_n C dX11_in_0 rfl ?_
  refine jj_lload_n C dX11_in_1 rfl ?_
  refine jj_lcmp_lt (tgt := 17) C dX11_in_2 dX11_in_3 (by decide) (fun c_1 => ?_) (fun c_1 => ?_)
  · refine jj_iconst (v := 0) C dX11_in_17 (by decide) ?_
    exact jj_zret C rfl (Or.inl ⟨c_1, rfl, rfl⟩) dX11_in_18 (jj_le rfl) (jj_le rfl)
  · refine jj_lload_n C dX11_in_6 rfl ?_
    refine jj_lload C dX11_in_7 rfl ?_
    refine jj_lcmp_gt (tgt := 17) C dX11_in_9 dX11_in_10 (by decide) (fun c_2 => ?_) (fun c_2 => ?_)
    · refine jj_iconst (v := 0) C dX11_in_17 (by decide) ?_
      exact jj_zret C rfl (Or.inr (Or.inl ⟨c_1, c_2, rfl, rfl⟩)) dX11_in_18 (jj_le rfl) (jj_le rfl)
    · refine jj_iconst (v := 1) C dX11_in_13 (by decide) ?_
      refine jj_goto (tgt := 18) C dX11_in_14 (by decide) ?_
      exact jj_zret C rfl (Or.inr (Or.inr ⟨c_1, c_2, rfl, rfl⟩)) dX11_in_18 (jj_le rfl) (jj_le rfl)

set_option maxHeartbeats 4000000 in
set_option maxRecDepth 100000 in
theorem ct_X11_in_6 {l : Launch} (hl : l.stackTraces = false) (D : va_G) (cA : Nat → ClassId) (ak : (Nat → Nat) × (Nat → Nat)) (b0 : Int64) : jj_M l D cA ak yX11_in (.code yX11_in cX11_in 6 (some .boolean)) 0 0 0 0 [] [.long b0, .long 0, .long 9] (fun (w : va_W) (r : Option Value) => (b0 < 0 ∧ w = [] ∧ r = some (.int 0)) ∨ (¬ b0 < 0 ∧ 9 < b0 ∧ w = [] ∧ r = some (.int 0)) ∨ (¬ b0 < 0 ∧ ¬ 9 < b0 ∧ w = [] ∧ r = some (.int 1))) jj_noX := by
  refine jj_start hl (by decide) jw_e07c9ada56 (jj_le rfl) ?_
  intro p e s m args below meth c A hargs hA C hex hmn
  refine jj_lload_n C dX11_in_0 rfl ?_
  refine jj_lload_n C dX11_in_1 rfl ?_
  refine jj_lcmp_lt (tgt := 17) C dX11_in_2 dX11_in_3 (by decide) (fun c_1 => ?_) (fun c_1 => ?_)
  · refine jj_iconst (v := 0) C dX11_in_17 (by decide) ?_
    exact jj_zret C rfl (Or.inl ⟨c_1, rfl, rfl⟩) dX11_in_18 (jj_le rfl) (jj_le rfl)
  · refine jj_lload_n C dX11_in_6 rfl ?_
    refine jj_lload C dX11_in_7 rfl ?_
    refine jj_lcmp_gt (tgt := 17) C dX11_in_9 dX11_in_10 (by decide) (fun c_2 => ?_) (fun c_2 => ?_)
    · refine jj_iconst (v := 0) C dX11_in_17 (by decide) ?_
      exact jj_zret C rfl (Or.inr (Or.inl ⟨c_1, c_2, rfl, rfl⟩)) dX11_in_18 (jj_le rfl) (jj_le rfl)
    · refine jj_iconst (v := 1) C dX11_in_13 (by decide) ?_
      refine jj_goto (tgt := 18) C dX11_in_14 (by decide) ?_
      exact jj_zret C rfl (Or.inr (Or.inr ⟨c_1, c_2, rfl, rfl⟩)) dX11_in_18 (jj_le rfl) (jj_le rfl)

set_option maxHeartbeats 4000000 in
set_option maxRecDepth 100000 in
theorem ct_X11_in_7 {l : Launch} (hl : l.stackTraces = false) (D : va_G) (cA : Nat → ClassId) (ak : (Nat → Nat) × (Nat → Nat)) (b0 : Int64) : jj_M l D cA ak yX11_in (.code yX11_in cX11_in 6 (some .boolean)) 0 0 0 0 [] [.long b0, .long 0, .long 5] (fun (w : va_W) (r : Option Value) => (b0 < 0 ∧ w = [] ∧ r = some (.int 0)) ∨ (¬ b0 < 0 ∧ 5 < b0 ∧ w = [] ∧ r = some (.int 0)) ∨ (¬ b0 < 0 ∧ ¬ 5 < b0 ∧ w = [] ∧ r = some (.int 1))) jj_noX := by
  refine jj_start hl (by decide) jw_e07c9ada56 (jj_le rfl) ?_
  intro p e s m args below meth c A hargs hA C hex hmn
  refine jj_lload_n C dX11_in_0 rfl ?_
  refine jj_lload_n C dX11_in_1 rfl ?_
  refine jj_lcmp_lt (tgt := 17) C dX11_in_2 dX11_in_3 (by decide) (fun c_1 => ?_) (fun c_1 => ?_)
  · refine jj_iconst (v := 0) C dX11_in_17 (by decide) ?_
    exact jj_zret C rfl (Or.inl ⟨c_1, rfl, rfl⟩) dX11_in_18 (jj_le rfl) (jj_le rfl)
  · refine jj_lload_n C dX11_in_6 rfl ?_
    refine jj_lload C dX11_in_7 rfl ?_
    refine jj_lcmp_gt (tgt := 17) C dX11_in_9 dX11_in_10 (by decide) (fun c_2 => ?_) (fun c_2 => ?_)
    · refine jj_iconst (v := 0) C dX11_in_17 (by decide) ?_
      exact jj_zret C rfl (Or.inr (Or.inl ⟨c_1, c_2, rfl, rfl⟩)) dX11_in_18 (jj_le rfl) (jj_le rfl)
    · refine jj_iconst (v := 1) C dX11_in_13 (by decide) ?_
      refine jj_goto (tgt := 18) C dX11_in_14 (by decide) ?_
      exact jj_zret C rfl (Or.inr (Or.inr ⟨c_1, c_2, rfl, rfl⟩)) dX11_in_18 (jj_le rfl) (jj_le rfl)

set_option maxHeartbeats 4000000 in
set_option maxRecDepth 100000 in
theorem ct_X11_in_8 {l : Launch} (hl : l.stackTraces = false) (D : va_G) (cA : Nat → ClassId) (ak : (Nat → Nat) × (Nat → Nat)) (b0 : Int64) : jj_M l D cA ak yX11_in (.code yX11_in cX11_in 6 (some .boolean)) 0 0 0 0 [] [.long b0, .long 0, .long 3] (fun (w : va_W) (r : Option Value) => (b0 < 0 ∧ w = [] ∧ r = some (.int 0)) ∨ (¬ b0 < 0 ∧ 3 < b0 ∧ w = [] ∧ r = some (.int 0)) ∨ (¬ b0 < 0 ∧ ¬ 3 < b0 ∧ w = [] ∧ r = some (.int 1))) jj_noX := by
  refine jj_start hl (by decide) jw_e07c9ada56 (jj_le rfl) ?_
  intro p e s m args below meth c A hargs hA C hex hmn
  refine jj_lload_n C dX11_in_0 rfl ?_
  refine jj_lload_n C dX11_in_1 rfl ?_
  refine jj_lcmp_lt (tgt := 17) C dX11_in_2 dX11_in_3 (by decide) (fun c_1 => ?_) (fun c_1 => ?_)
  · refine jj_iconst (v := 0) C dX11_in_17 (by decide) ?_
    exact jj_zret C rfl (Or.inl ⟨c_1, rfl, rfl⟩) dX11_in_18 (jj_le rfl) (jj_le rfl)
  · refine jj_lload_n C dX11_in_6 rfl ?_
    refine jj_lload C dX11_in_7 rfl ?_
    refine jj_lcmp_gt (tgt := 17) C dX11_in_9 dX11_in_10 (by decide) (fun c_2 => ?_) (fun c_2 => ?_)
    · refine jj_iconst (v := 0) C dX11_in_17 (by decide) ?_
      exact jj_zret C rfl (Or.inr (Or.inl ⟨c_1, c_2, rfl, rfl⟩)) dX11_in_18 (jj_le rfl) (jj_le rfl)
    · refine jj_iconst (v := 1) C dX11_in_13 (by decide) ?_
      refine jj_goto (tgt := 18) C dX11_in_14 (by decide) ?_
      exact jj_zret C rfl (Or.inr (Or.inr ⟨c_1, c_2, rfl, rfl⟩)) dX11_in_18 (jj_le rfl) (jj_le rfl)

set_option maxHeartbeats 4000000 in
set_option maxRecDepth 100000 in
theorem rc_X11_no_d8d95c {l : Launch} (hl : l.stackTraces = false) (D : va_G) (cA : Nat → ClassId) (ak : (Nat → Nat) × (Nat → Nat)) {Kd : Nat → Nat} {h0 aw aa at0 ai af ap : Nat} (p1 : Int32) (hk0 : Kd h0 = 1) (hkw : Kd aw = 2) (hka : Kd aa = 3) (hkt : Kd at0 = 4) (hki : Kd ai = 5) (hkf : Kd af = 6) (hkp : Kd ap = 7) {pl0 : va_W} (hok : tt_ok rt_tk cA Kd pl0) (hm : rl_m pl0 h0 aw aa at0 ai af ap) : jj_M l D cA ak yX11_no (.code yX11_no cX11_no 2 (some .int)) 0 0 0 0 ([] ++ pl0) [.ref h0, .int p1] (tt_O (fun rx pl1 r => rx = [] ∧ tt_ok rt_tk cA Kd pl1 ∧ tt_fr Kd [(1, 7)] pl0 pl1 ∧ tt_fa Kd [] pl0 pl1 ∧ ((r = some (.int 0))))) (tt_OX (fun _ _ _ => False)) := by
  refine jj_start hl (by decide) jw_db0108e47b (jj_le rfl) ?_
  intro p e s m args below meth c A hargs hA C hex hmn
  have hfr := tt_fr.refl (K := Kd) (WS := [(1, 7)]) pl0
  have hfa := tt_fa.refl (K := Kd) (WA := []) pl0
  have lp1 := tt_lo p1
  have up1 := tt_hi p1
  refine jj_aload_n C dX11_no_0 rfl ?_
  refine jj_iload_n C dX11_no_1 rfl ?_
  refine rl_put C hok jk_12 7 (by decide) jw_0a65e3738e (t := (0, (-2147483648), 2147483647)) hk0 (by decide) rfl rfl rfl (tt_ia p1) rfl rfl dX11_no_2 (fun pl_1 hok_2 tr hn tl => ?_)
  have hf_3 := hn
  replace hm := hm.put tr (by decide)
  replace hfr := hfr.put hk0 tr (by decide)
  replace hfa := hfa.all tl
  refine jj_iconst (v := 0) C dX11_no_5 (by decide) ?_
  exact jj_iret C ⟨[], pl_1, rfl, rfl, hok_2, hfr, hfa, rfl⟩ dX11_no_6 (jj_le rfl) (jj_le rfl)

set_option maxHeartbeats 4000000 in
set_option maxRecDepth 100000 in
theorem rc_X11_isInvestor_d8d95c {l : Launch} (hl : l.stackTraces = false) (D : va_G) (cA : Nat → ClassId) (ak : (Nat → Nat) × (Nat → Nat)) {Kd : Nat → Nat} {h0 aw aa at0 ai af ap : Nat} (p1 : Int32) (f : Nat → Int64) (hk0 : Kd h0 = 1) (hkw : Kd aw = 2) (hka : Kd aa = 3) (hkt : Kd at0 = 4) (hki : Kd ai = 5) (hkf : Kd af = 6) (hkp : Kd ap = 7) (hH : rl_h f) {pl0 : va_W} (hok : tt_ok rt_tk cA Kd pl0) (hm : rl_m pl0 h0 aw aa at0 ai af ap) (hC : tt_lc pl0 aw f) : jj_M l D cA ak yX11_isInvestor (.code yX11_isInvestor cX11_isInvestor 2 (some .boolean)) 1 25 0 0 ([] ++ pl0) [.ref h0, .int p1] (tt_O (fun rx pl1 r => rx = [] ∧ tt_ok rt_tk cA Kd pl1 ∧ tt_fr Kd [] pl0 pl1 ∧ tt_fa Kd [] pl0 pl1 ∧ ((r = some (.int 0)) ∨ ((0 : Int) ≤ p1.toInt ∧ p1.toInt ≤ 5 ∧ r = some (.int 1))))) (tt_OX (fun _ _ _ => False)) := by
  refine jj_start hl (by decide) jw_eb28ea56ae (jj_le rfl) ?_
  intro p e s m args below meth c A hargs hA C hex hmn
  have hfr := tt_fr.refl (K := Kd) (WS := []) pl0
  have hfa := tt_fa.refl (K := Kd) (WA := []) pl0
  have lp1 := tt_lo p1
  have up1 := tt_hi p1
  obtain ⟨⟨g0a, g0b⟩, ⟨g1a, g1b⟩, ⟨g6a, g6b⟩, ⟨g7a, g7b⟩, ⟨g8a, g8b⟩⟩ := hH
  refine jj_iload_n C dX11_isInvestor_0 rfl ?_
  obtain ⟨y_1, ey_1, vy_1⟩ := tt_i2l p1
  refine jj_i2l (v := y_1) C dX11_isInvestor_1 ey_1 ?_
  refine jj_lconst (v := 0) C dX11_isInvestor_2 (by decide) ?_
  refine jj_aload_n C dX11_isInvestor_3 rfl ?_
  refine tt_getF C hok jk_12 0 (by decide) jw_34eaf3ba8b (t := (2, 2, 0)) hk0 (by decide) rfl rfl hm.1 dX11_isInvestor_4 ?_
  refine jj_iconst (v := 0) C dX11_isInvestor_7 (by decide) ?_
  refine rl_lald C hok (t := (1, (-9223372036854775808), 9223372036854775807)) hkw (by decide) rfl (k := 0) (v := (f 0)) (vp_in_iff.mpr (by decide)) hC (by decide) rfl dX11_isInvestor_8 ?_
  refine jj_lconst (v := 1) C dX11_isInvestor_9 (by decide) ?_
  obtain ⟨y_2, ey_2, vy_2⟩ := tt_lsub (x := (f 0)) (y := (1 : Int64)) (a := (f 0).toInt) rfl (b := 1) (by decide) (by omega) (by omega)
  refine jj_lsub (v := y_2) C dX11_isInvestor_10 ey_2 ?_
  refine tt_call0S (rest := []) C (ct_X11_in_1 hl D cA ak y_1 y_2) jw_2a24feddee jw_12f28ccfda jw_f96c99f44d jw_e07c9ada56 jn_X11_in rfl (jj_le rfl) (jj_le rfl) (jj_le rfl) (jj_le rfl) (jj_le rfl) dX11_isInvestor_11 rfl (fun w1 r O_3 => ?_)
  rcases O_3 with ⟨c_4, -, rfl⟩ | ⟨c_5, c_6, -, rfl⟩ | ⟨c_7, c_8, -, rfl⟩
  · have z_c_4 := jc_ltL (a := y_1.toInt) (b := 0) c_4 rfl (by decide)
    exact jj_zret C rfl ⟨[], pl0, rfl, rfl, hok, hfr, hfa, (Or.inl rfl)⟩ dX11_isInvestor_14 (jj_le rfl) (jj_le rfl)
  · have z_c_5 := jc_nltL (a := y_1.toInt) (b := 0) c_5 rfl (by decide)
    have z_c_6 := jc_ltL (a := y_2.toInt) (b := y_1.toInt) c_6 rfl rfl
    exact jj_zret C rfl ⟨[], pl0, rfl, rfl, hok, hfr, hfa, (Or.inl rfl)⟩ dX11_isInvestor_14 (jj_le rfl) (jj_le rfl)
  · have z_c_7 := jc_nltL (a := y_1.toInt) (b := 0) c_7 rfl (by decide)
    have z_c_8 := jc_nltL (a := y_2.toInt) (b := y_1.toInt) c_8 rfl rfl
    exact jj_zret C rfl ⟨[], pl0, rfl, rfl, hok, hfr, hfa, (Or.inr ⟨(by first | omega | exact tt_lo _ | exact tt_hi _), (by first | omega | exact tt_lo _ | exact tt_hi _), rfl⟩)⟩ dX11_isInvestor_14 (jj_le rfl) (jj_le rfl)

set_option maxHeartbeats 4000000 in
set_option maxRecDepth 100000 in
theorem rc_X11_fails_f00e4f {l : Launch} (hl : l.stackTraces = false) (D : va_G) (cA : Nat → ClassId) (ak : (Nat → Nat) × (Nat → Nat)) {Kd : Nat → Nat} {h0 aw aa at0 ai af ap : Nat} (hk0 : Kd h0 = 1) (hkw : Kd aw = 2) (hka : Kd aa = 3) (hkt : Kd at0 = 4) (hki : Kd ai = 5) (hkf : Kd af = 6) (hkp : Kd ap = 7) {pl0 : va_W} (hok : tt_ok rt_tk cA Kd pl0) (hm : rl_m pl0 h0 aw aa at0 ai af ap) : jj_M l D cA ak yX11_fails (.code yX11_fails cX11_fails 3 (some .boolean)) 0 0 0 0 ([] ++ pl0) [.ref h0, .int 1, .int 1] (tt_O (fun rx pl1 r => rx = [] ∧ tt_ok rt_tk cA Kd pl1 ∧ tt_fr Kd [(1, 7)] pl0 pl1 ∧ tt_fa Kd [] pl0 pl1 ∧ ((r = some (.int 1))))) (tt_OX (fun _ _ _ => False)) := by
  refine jj_start hl (by decide) jw_a520512e18 (jj_le rfl) ?_
  intro p e s m args below meth c A hargs hA C hex hmn
  have hfr := tt_fr.refl (K := Kd) (WS := [(1, 7)]) pl0
  have hfa := tt_fa.refl (K := Kd) (WA := []) pl0
  refine jj_aload_n C dX11_fails_0 rfl ?_
  refine jj_iload_n C dX11_fails_1 rfl ?_
  refine jj_if_eqF (tgt := 9) C dX11_fails_2 (by decide) (by decide) ?_
  refine jj_iload_n C dX11_fails_5 rfl ?_
  refine jj_goto (tgt := 10) C dX11_fails_6 (by decide) ?_
  refine rl_put C hok jk_12 7 (by decide) jw_0a65e3738e (t := (0, (-2147483648), 2147483647)) hk0 (by decide) rfl rfl rfl (tt_ia (1 : Int32)) rfl rfl dX11_fails_10 (fun pl_1 hok_2 tr hn tl => ?_)
  have hf_3 := hn
  replace hm := hm.put tr (by decide)
  replace hfr := hfr.put hk0 tr (by decide)
  replace hfa := hfa.all tl
  refine jj_iload_n C dX11_fails_13 rfl ?_
  exact jj_zret C rfl ⟨[], pl_1, rfl, rfl, hok_2, hfr, hfa, rfl⟩ dX11_fails_14 (jj_le rfl) (jj_le rfl)

set_option maxHeartbeats 4000000 in
set_option maxRecDepth 100000 in
theorem rc_X11_fails_8f9520 {l : Launch} (hl : l.stackTraces = false) (D : va_G) (cA : Nat → ClassId) (ak : (Nat → Nat) × (Nat → Nat)) {Kd : Nat → Nat} {h0 aw aa at0 ai af ap : Nat} (hk0 : Kd h0 = 1) (hkw : Kd aw = 2) (hka : Kd aa = 3) (hkt : Kd at0 = 4) (hki : Kd ai = 5) (hkf : Kd af = 6) (hkp : Kd ap = 7) {pl0 : va_W} (hok : tt_ok rt_tk cA Kd pl0) (hm : rl_m pl0 h0 aw aa at0 ai af ap) : jj_M l D cA ak yX11_fails (.code yX11_fails cX11_fails 3 (some .boolean)) 0 0 0 0 ([] ++ pl0) [.ref h0, .int 0, .int 1] (tt_O (fun rx pl1 r => rx = [] ∧ tt_ok rt_tk cA Kd pl1 ∧ tt_fr Kd [(1, 7)] pl0 pl1 ∧ tt_fa Kd [] pl0 pl1 ∧ ((r = some (.int 0))))) (tt_OX (fun _ _ _ => False)) := by
  refine jj_start hl (by decide) jw_a520512e18 (jj_le rfl) ?_
  intro p e s m args below meth c A hargs hA C hex hmn
  have hfr := tt_fr.refl (K := Kd) (WS := [(1, 7)]) pl0
  have hfa := tt_fa.refl (K := Kd) (WA := []) pl0
  refine jj_aload_n C dX11_fails_0 rfl ?_
  refine jj_iload_n C dX11_fails_1 rfl ?_
  refine jj_if_eqT (tgt := 9) C dX11_fails_2 (by decide) (by decide) ?_
  refine jj_iconst (v := 0) C dX11_fails_9 (by decide) ?_
  refine rl_put C hok jk_12 7 (by decide) jw_0a65e3738e (t := (0, (-2147483648), 2147483647)) hk0 (by decide) rfl rfl rfl (tt_ia (0 : Int32)) rfl rfl dX11_fails_10 (fun pl_1 hok_2 tr hn tl => ?_)
  have hf_3 := hn
  replace hm := hm.put tr (by decide)
  replace hfr := hfr.put hk0 tr (by decide)
  replace hfa := hfa.all tl
  refine jj_iload_n C dX11_fails_13 rfl ?_
  exact jj_zret C rfl ⟨[], pl_1, rfl, rfl, hok_2, hfr, hfa, rfl⟩ dX11_fails_14 (jj_le rfl) (jj_le rfl)

set_option maxHeartbeats 4000000 in
set_option maxRecDepth 100000 in
theorem rc_X11_isNoInvestor_d8d95c {l : Launch} (hl : l.stackTraces = false) (D : va_G) (cA : Nat → ClassId) (ak : (Nat → Nat) × (Nat → Nat)) {Kd : Nat → Nat} {h0 aw aa at0 ai af ap : Nat} (p1 : Int32) (f : Nat → Int64) (hk0 : Kd h0 = 1) (hkw : Kd aw = 2) (hka : Kd aa = 3) (hkt : Kd at0 = 4) (hki : Kd ai = 5) (hkf : Kd af = 6) (hkp : Kd ap = 7) (hH : rl_h f) {pl0 : va_W} (hok : tt_ok rt_tk cA Kd pl0) (hm : rl_m pl0 h0 aw aa at0 ai af ap) (hC : tt_lc pl0 aw f) : jj_M l D cA ak yX11_isNoInvestor (.code yX11_isNoInvestor cX11_isNoInvestor 2 (some .boolean)) 2 46 0 0 ([] ++ pl0) [.ref h0, .int p1] (tt_O (fun rx pl1 r => rx = [] ∧ tt_ok rt_tk cA Kd pl1 ∧ tt_fr Kd [(1, 7)] pl0 pl1 ∧ tt_fa Kd [] pl0 pl1 ∧ ((r = some (.int 1)) ∨ ((0 : Int) ≤ p1.toInt ∧ p1.toInt ≤ 5 ∧ r = some (.int 0))))) (tt_OX (fun _ _ _ => False)) := by
  refine jj_start hl (by decide) jw_78c857bdda (jj_le rfl) ?_
  intro p e s m args below meth c A hargs hA C hex hmn
  have hfr := tt_fr.refl (K := Kd) (WS := [(1, 7)]) pl0
  have hfa := tt_fa.refl (K := Kd) (WA := []) pl0
  have lp1 := tt_lo p1
  have up1 := tt_hi p1
  obtain ⟨⟨g0a, g0b⟩, ⟨g1a, g1b⟩, ⟨g6a, g6b⟩, ⟨g7a, g7b⟩, ⟨g8a, g8b⟩⟩ := hH
  refine jj_aload_n C dX11_isNoInvestor_0 rfl ?_
  refine jj_aload_n C dX11_isNoInvestor_1 rfl ?_
  refine jj_iload_n C dX11_isNoInvestor_2 rfl ?_
  obtain ⟨qc, gs, hqc⟩ := tt_recv (cx := []) hok hk0 (by decide) rfl
  refine tt_callV (rest := [.ref h0]) C (rc_X11_isInvestor_d8d95c hl D cA ak p1 _ hk0 hkw hka hkt hki hkf hkp ⟨⟨g0a, g0b⟩, ⟨g1a, g1b⟩, ⟨g6a, g6b⟩, ⟨g7a, g7b⟩, ⟨g8a, g8b⟩⟩ hok hm hC) [] [] rfl rfl (by decide) (by decide) (by decide) qc hqc rfl rfl jw_7ef37939ff jw_26aeef849b jw_c47596b272 jw_f96c99f44d jw_eb28ea56ae jn_X11_isInvestor rfl (jj_le rfl) (jj_le rfl) (jj_le rfl) (jj_le rfl) (jj_le rfl) dX11_isNoInvestor_3 rfl (fun _ _ _ hX => hX.elim) (fun rx pl_1 r O_5 => ?_)
  obtain ⟨rfl, hok_2, hr_3, ha_4, hR_6⟩ := O_5
  replace hC := ha_4.at hkw (by decide) (by decide) hC
  replace hm := hm.fr hr_3 hk0 rfl
  replace hfr := hfr.trans (hr_3.sub (by decide))
  replace hfa := hfa.trans (ha_4.sub (by decide))
  rcases hR_6 with rfl | ⟨l_7, u_8, rfl⟩
  · refine jj_if_neF (tgt := 13) C dX11_isNoInvestor_6 (by decide) (by decide) ?_
    refine jj_iconst (v := 1) C dX11_isNoInvestor_9 (by decide) ?_
    refine jj_goto (tgt := 14) C dX11_isNoInvestor_10 (by decide) ?_
    refine jj_iconst (v := 1) C dX11_isNoInvestor_14 (by decide) ?_
    obtain ⟨qc, gs, hqc⟩ := tt_recv (cx := []) hok_2 hk0 (by decide) rfl
    refine tt_callV (rest := []) C (rc_X11_fails_f00e4f hl D cA ak hk0 hkw hka hkt hki hkf hkp hok_2 hm) [] [] rfl rfl (by decide) (by decide) (by decide) qc hqc rfl rfl jw_9c28fd2e32 jw_193b10eb43 jw_69bbe80566 jw_f96c99f44d jw_a520512e18 jn_X11_fails rfl (jj_le rfl) (jj_le rfl) (jj_le rfl) (jj_le rfl) (jj_le rfl) dX11_isNoInvestor_15 rfl (fun _ _ _ hX => hX.elim) (fun rx pl_9 r O_13 => ?_)
    obtain ⟨rfl, hok_10, hr_11, ha_12, hR_14⟩ := O_13
    replace hC := ha_12.at hkw (by decide) (by decide) hC
    replace hm := hm.fr hr_11 hk0 rfl
    replace hfr := hfr.trans (hr_11.sub (by decide))
    replace hfa := hfa.trans (ha_12.sub (by decide))
    obtain rfl := hR_14
    exact jj_zret C rfl ⟨[], pl_9, rfl, rfl, hok_10, hfr, hfa, (Or.inl rfl)⟩ dX11_isNoInvestor_18 (jj_le rfl) (jj_le rfl)
  · refine jj_if_neT (tgt := 13) C dX11_isNoInvestor_6 (by decide) (by decide) ?_
    refine jj_iconst (v := 0) C dX11_isNoInvestor_13 (by decide) ?_
    refine jj_iconst (v := 1) C dX11_isNoInvestor_14 (by decide) ?_
    obtain ⟨qc, gs, hqc⟩ := tt_recv (cx := []) hok_2 hk0 (by decide) rfl
    refine tt_callV (rest := []) C (rc_X11_fails_8f9520 hl D cA ak hk0 hkw hka hkt hki hkf hkp hok_2 hm) [] [] rfl rfl (by decide) (by decide) (by decide) qc hqc rfl rfl jw_9c28fd2e32 jw_193b10eb43 jw_69bbe80566 jw_f96c99f44d jw_a520512e18 jn_X11_fails rfl (jj_le rfl) (jj_le rfl) (jj_le rfl) (jj_le rfl) (jj_le rfl) dX11_isNoInvestor_15 rfl (fun _ _ _ hX => hX.elim) (fun rx pl_15 r O_19 => ?_)
    obtain ⟨rfl, hok_16, hr_17, ha_18, hR_20⟩ := O_19
    replace hC := ha_18.at hkw (by decide) (by decide) hC
    replace hm := hm.fr hr_17 hk0 rfl
    replace hfr := hfr.trans (hr_17.sub (by decide))
    replace hfa := hfa.trans (ha_18.sub (by decide))
    obtain rfl := hR_20
    exact jj_zret C rfl ⟨[], pl_15, rfl, rfl, hok_16, hfr, hfa, (Or.inr ⟨(by first | omega | exact tt_lo _ | exact tt_hi _), (by first | omega | exact tt_lo _ | exact tt_hi _), rfl⟩)⟩ dX11_isNoInvestor_18 (jj_le rfl) (jj_le rfl)

set_option maxHeartbeats 4000000 in
set_option maxRecDepth 100000 in
theorem rc_X11_isNoRequest_d8d95c {l : Launch} (hl : l.stackTraces = false) (D : va_G) (cA : Nat → ClassId) (ak : (Nat → Nat) × (Nat → Nat)) {Kd : Nat → Nat} {h0 aw aa at0 ai af ap : Nat} (p1 : Int32) (f : Nat → Int64) (hk0 : Kd h0 = 1) (hkw : Kd aw = 2) (hka : Kd aa = 3) (hkt : Kd at0 = 4) (hki : Kd ai = 5) (hkf : Kd af = 6) (hkp : Kd ap = 7) (hH : rl_h f) {pl0 : va_W} (hok : tt_ok rt_tk cA Kd pl0) (hm : rl_m pl0 h0 aw aa at0 ai af ap) (hC : tt_lc pl0 aw f) : jj_M l D cA ak yX11_isNoRequest (.code yX11_isNoRequest cX11_isNoRequest 2 (some .boolean)) 1 25 0 0 ([] ++ pl0) [.ref h0, .int p1] (tt_O (fun rx pl1 r => rx = [] ∧ tt_ok rt_tk cA Kd pl1 ∧ tt_fr Kd [(1, 7)] pl0 pl1 ∧ tt_fa Kd [] pl0 pl1 ∧ ((r = some (.int 1)) ∨ ((0 : Int) ≤ p1.toInt ∧ p1.toInt ≤ 11 ∧ r = some (.int 0))))) (tt_OX (fun _ _ _ => False)) := by
  refine jj_start hl (by decide) jw_c6d824393d (jj_le rfl) ?_
  intro p e s m args below meth c A hargs hA C hex hmn
  have hfr := tt_fr.refl (K := Kd) (WS := [(1, 7)]) pl0
  have hfa := tt_fa.refl (K := Kd) (WA := []) pl0
  have lp1 := tt_lo p1
  have up1 := tt_hi p1
  obtain ⟨⟨g0a, g0b⟩, ⟨g1a, g1b⟩, ⟨g6a, g6b⟩, ⟨g7a, g7b⟩, ⟨g8a, g8b⟩⟩ := hH
  refine jj_aload_n C dX11_isNoRequest_0 rfl ?_
  refine jj_iload_n C dX11_isNoRequest_1 rfl ?_
  obtain ⟨y_1, ey_1, vy_1⟩ := tt_i2l p1
  refine jj_i2l (v := y_1) C dX11_isNoRequest_2 ey_1 ?_
  refine jj_lconst (v := 0) C dX11_isNoRequest_3 (by decide) ?_
  refine jj_aload_n C dX11_isNoRequest_4 rfl ?_
  refine tt_getF C hok jk_12 0 (by decide) jw_34eaf3ba8b (t := (2, 2, 0)) hk0 (by decide) rfl rfl hm.1 dX11_isNoRequest_5 ?_
  refine jj_bipush (v := 8) C dX11_isNoRequest_8 (by decide) ?_
  refine rl_lald C hok (t := (1, (-9223372036854775808), 9223372036854775807)) hkw (by decide) rfl (k := 8) (v := (f 8)) (vp_in_iff.mpr (by decide)) hC (by decide) rfl dX11_isNoRequest_10 ?_
  refine jj_lconst (v := 1) C dX11_isNoRequest_11 (by decide) ?_
  obtain ⟨y_2, ey_2, vy_2⟩ := tt_lsub (x := (f 8)) (y := (1 : Int64)) (a := (f 8).toInt) rfl (b := 1) (by decide) (by omega) (by omega)
  refine jj_lsub (v := y_2) C dX11_isNoRequest_12 ey_2 ?_
  refine tt_call0S (rest := [.ref h0]) C (ct_X11_in_1 hl D cA ak y_1 y_2) jw_2a24feddee jw_12f28ccfda jw_f96c99f44d jw_e07c9ada56 jn_X11_in rfl (jj_le rfl) (jj_le rfl) (jj_le rfl) (jj_le rfl) (jj_le rfl) dX11_isNoRequest_13 rfl (fun w1 r O_3 => ?_)
  rcases O_3 with ⟨c_4, -, rfl⟩ | ⟨c_5, c_6, -, rfl⟩ | ⟨c_7, c_8, -, rfl⟩
  · have z_c_4 := jc_ltL (a := y_1.toInt) (b := 0) c_4 rfl (by decide)
    refine jj_if_neF (tgt := 23) C dX11_isNoRequest_16 (by decide) (by decide) ?_
    refine jj_iconst (v := 1) C dX11_isNoRequest_19 (by decide) ?_
    refine jj_goto (tgt := 24) C dX11_isNoRequest_20 (by decide) ?_
    refine jj_iconst (v := 1) C dX11_isNoRequest_24 (by decide) ?_
    obtain ⟨qc, gs, hqc⟩ := tt_recv (cx := []) hok hk0 (by decide) rfl
    refine tt_callV (rest := []) C (rc_X11_fails_f00e4f hl D cA ak hk0 hkw hka hkt hki hkf hkp hok hm) [] [] rfl rfl (by decide) (by decide) (by decide) qc hqc rfl rfl jw_9c28fd2e32 jw_193b10eb43 jw_69bbe80566 jw_f96c99f44d jw_a520512e18 jn_X11_fails rfl (jj_le rfl) (jj_le rfl) (jj_le rfl) (jj_le rfl) (jj_le rfl) dX11_isNoRequest_25 rfl (fun _ _ _ hX => hX.elim) (fun rx pl_9 r O_13 => ?_)
    obtain ⟨rfl, hok_10, hr_11, ha_12, hR_14⟩ := O_13
    replace hC := ha_12.at hkw (by decide) (by decide) hC
    replace hm := hm.fr hr_11 hk0 rfl
    replace hfr := hfr.trans (hr_11.sub (by decide))
    replace hfa := hfa.trans (ha_12.sub (by decide))
    obtain rfl := hR_14
    exact jj_zret C rfl ⟨[], pl_9, rfl, rfl, hok_10, hfr, hfa, (Or.inl rfl)⟩ dX11_isNoRequest_28 (jj_le rfl) (jj_le rfl)
  · have z_c_5 := jc_nltL (a := y_1.toInt) (b := 0) c_5 rfl (by decide)
    have z_c_6 := jc_ltL (a := y_2.toInt) (b := y_1.toInt) c_6 rfl rfl
    refine jj_if_neF (tgt := 23) C dX11_isNoRequest_16 (by decide) (by decide) ?_
    refine jj_iconst (v := 1) C dX11_isNoRequest_19 (by decide) ?_
    refine jj_goto (tgt := 24) C dX11_isNoRequest_20 (by decide) ?_
    refine jj_iconst (v := 1) C dX11_isNoRequest_24 (by decide) ?_
    obtain ⟨qc, gs, hqc⟩ := tt_recv (cx := []) hok hk0 (by decide) rfl
    refine tt_callV (rest := []) C (rc_X11_fails_f00e4f hl D cA ak hk0 hkw hka hkt hki hkf hkp hok hm) [] [] rfl rfl (by decide) (by decide) (by decide) qc hqc rfl rfl jw_9c28fd2e32 jw_193b10eb43 jw_69bbe80566 jw_f96c99f44d jw_a520512e18 jn_X11_fails rfl (jj_le rfl) (jj_le rfl) (jj_le rfl) (jj_le rfl) (jj_le rfl) dX11_isNoRequest_25 rfl (fun _ _ _ hX => hX.elim) (fun rx pl_15 r O_19 => ?_)
    obtain ⟨rfl, hok_16, hr_17, ha_18, hR_20⟩ := O_19
    replace hC := ha_18.at hkw (by decide) (by decide) hC
    replace hm := hm.fr hr_17 hk0 rfl
    replace hfr := hfr.trans (hr_17.sub (by decide))
    replace hfa := hfa.trans (ha_18.sub (by decide))
    obtain rfl := hR_20
    exact jj_zret C rfl ⟨[], pl_15, rfl, rfl, hok_16, hfr, hfa, (Or.inl rfl)⟩ dX11_isNoRequest_28 (jj_le rfl) (jj_le rfl)
  · have z_c_7 := jc_nltL (a := y_1.toInt) (b := 0) c_7 rfl (by decide)
    have z_c_8 := jc_nltL (a := y_2.toInt) (b := y_1.toInt) c_8 rfl rfl
    refine jj_if_neT (tgt := 23) C dX11_isNoRequest_16 (by decide) (by decide) ?_
    refine jj_iconst (v := 0) C dX11_isNoRequest_23 (by decide) ?_
    refine jj_iconst (v := 1) C dX11_isNoRequest_24 (by decide) ?_
    obtain ⟨qc, gs, hqc⟩ := tt_recv (cx := []) hok hk0 (by decide) rfl
    refine tt_callV (rest := []) C (rc_X11_fails_8f9520 hl D cA ak hk0 hkw hka hkt hki hkf hkp hok hm) [] [] rfl rfl (by decide) (by decide) (by decide) qc hqc rfl rfl jw_9c28fd2e32 jw_193b10eb43 jw_69bbe80566 jw_f96c99f44d jw_a520512e18 jn_X11_fails rfl (jj_le rfl) (jj_le rfl) (jj_le rfl) (jj_le rfl) (jj_le rfl) dX11_isNoRequest_25 rfl (fun _ _ _ hX => hX.elim) (fun rx pl_21 r O_25 => ?_)
    obtain ⟨rfl, hok_22, hr_23, ha_24, hR_26⟩ := O_25
    replace hC := ha_24.at hkw (by decide) (by decide) hC
    replace hm := hm.fr hr_23 hk0 rfl
    replace hfr := hfr.trans (hr_23.sub (by decide))
    replace hfa := hfa.trans (ha_24.sub (by decide))
    obtain rfl := hR_26
    exact jj_zret C rfl ⟨[], pl_21, rfl, rfl, hok_22, hfr, hfa, (Or.inr ⟨(by first | omega | exact tt_lo _ | exact tt_hi _), (by first | omega | exact tt_lo _ | exact tt_hi _), rfl⟩)⟩ dX11_isNoRequest_28 (jj_le rfl) (jj_le rfl)

set_option maxHeartbeats 4000000 in
set_option maxRecDepth 100000 in
theorem rc_X11_undoDepth_9a6f36 {l : Launch} (hl : l.stackTraces = false) (D : va_G) (cA : Nat → ClassId) (ak : (Nat → Nat) × (Nat → Nat)) {Kd : Nat → Nat} {h0 aw aa at0 ai af ap : Nat} (hk0 : Kd h0 = 1) (hkw : Kd aw = 2) (hka : Kd aa = 3) (hkt : Kd at0 = 4) (hki : Kd ai = 5) (hkf : Kd af = 6) (hkp : Kd ap = 7) {pl0 : va_W} (hok : tt_ok rt_tk cA Kd pl0) (hm : rl_m pl0 h0 aw aa at0 ai af ap) : jj_M l D cA ak yX11_undoDepth (.code yX11_undoDepth cX11_undoDepth 1 (some .int)) 0 0 0 0 ([] ++ pl0) [.ref h0] (tt_O (fun rx pl1 r => rx = [] ∧ tt_ok rt_tk cA Kd pl1 ∧ tt_fr Kd [(1, 7)] pl0 pl1 ∧ tt_fa Kd [] pl0 pl1 ∧ ((∃ v : Int32, (0 : Int) ≤ v.toInt ∧ v.toInt ≤ 10 ∧ r = some (.int v))))) (tt_OX (fun _ _ _ => False)) := by
  refine jj_start hl (by decide) jw_b89e52f8b9 (jj_le rfl) ?_
  intro p e s m args below meth c A hargs hA C hex hmn
  have hfr := tt_fr.refl (K := Kd) (WS := [(1, 7)]) pl0
  have hfa := tt_fa.refl (K := Kd) (WA := []) pl0
  refine jj_aload_n C dX11_undoDepth_0 rfl ?_
  refine jj_iconst (v := 0) C dX11_undoDepth_1 (by decide) ?_
  refine rl_put C hok jk_12 7 (by decide) jw_0a65e3738e (t := (0, (-2147483648), 2147483647)) hk0 (by decide) rfl rfl rfl (tt_ia (0 : Int32)) rfl rfl dX11_undoDepth_2 (fun pl_1 hok_2 tr hn tl => ?_)
  have hf_3 := hn
  replace hm := hm.put tr (by decide)
  replace hfr := hfr.put hk0 tr (by decide)
  replace hfa := hfa.all tl
  refine jj_aload_n C dX11_undoDepth_5 rfl ?_
  refine tt_get C hok_2 jk_12 6 (by decide) jw_39db7f12ad (t := (0, 0, 10)) hk0 (by decide) rfl rfl dX11_undoDepth_6 (fun v_4 hv_4 hf_5 => ?_)
  obtain ⟨x_6, rfl, lx_6, ux_6⟩ := tt_vi hv_4
  exact jj_iret C ⟨[], pl_1, rfl, rfl, hok_2, hfr, hfa, ⟨x_6, (by first | omega | exact tt_lo _ | exact tt_hi _), (by first | omega | exact tt_lo _ | exact tt_hi _), rfl⟩⟩ dX11_undoDepth_9 (jj_le rfl) (jj_le rfl)

set_option maxHeartbeats 4000000 in
set_option maxRecDepth 100000 in

set_option maxHeartbeats 4000000 in
set_option maxRecDepth 100000 in
theorem rc_X11_placeOf_4c3292 {l : Launch} (hl : l.stackTraces = false) (D : va_G) (cA : Nat → ClassId) (ak : (Nat → Nat) × (Nat → Nat)) {Kd : Nat → Nat} {h0 aw aa at0 ai af ap : Nat} (p1 : Int64) (f : Nat → Int64) (hk0 : Kd h0 = 1) (hkw : Kd aw = 2) (hka : Kd aa = 3) (hkt : Kd at0 = 4) (hki : Kd ai = 5) (hkf : Kd af = 6) (hkp : Kd ap = 7) (hH : rl_h f) {pl0 : va_W} (hok : tt_ok rt_tk cA Kd pl0) (hm : rl_m pl0 h0 aw aa at0 ai af ap) (hC : tt_lc pl0 aw f) : jj_M l D cA ak yX11_placeOf (.code yX11_placeOf cX11_placeOf 4 (some .int)) 1 20 0 0 ([] ++ pl0) [.ref h0, .long p1] (tt_O (fun rx pl1 r => rx = [] ∧ tt_ok rt_tk cA Kd pl1 ∧ tt_fr Kd [] pl0 pl1 ∧ tt_fa Kd [] pl0 pl1 ∧ ((r = some (.int (-1))) ∨ (∃ u0 : Nat, (0 : Int) ≤ (u0 : Int) ∧ (u0 : Int) ≤ 5 ∧ r = some (.int (nI (16 + 5 * u0))))))) (tt_OX (fun _ _ _ => False)) := by
  refine jj_start hl (by decide) jw_d7a6daa34b (jj_le rfl) ?_
  intro p e s m args below meth c A hargs hA C hex hmn
  have hfr := tt_fr.refl (K := Kd) (WS := []) pl0
  have hfa := tt_fa.refl (K := Kd) (WA := []) pl0
  obtain ⟨⟨g0a, g0b⟩, ⟨g1a, g1b⟩, ⟨g6a, g6b⟩, ⟨g7a, g7b⟩, ⟨g8a, g8b⟩⟩ := hH
  refine jj_iconst (v := 0) C dX11_placeOf_0 (by decide) ?_
  refine jj_istore_n C dX11_placeOf_1 (by decide) rfl ?_
  have hL_1 : ∀ (N : Nat) (pl : va_W) (k_2 : Nat), True → tt_ok rt_tk cA Kd pl → tt_fr Kd [] pl0 pl → tt_fa Kd [] pl0 pl → rl_m pl h0 aw aa at0 ai af ap → tt_lc pl aw f → (0 : Int) ≤ (k_2 : Int) → (k_2 : Int) ≤ 6 → (2147483648 - (k_2 : Int) ≤ (N : Int)) → jj_J p l e (jj_rm 1 20 0 0) s m args below meth c 4 A (vx_MQ below (jj_q D A (tt_O (fun rx pl1 r => rx = [] ∧ tt_ok rt_tk cA Kd pl1 ∧ tt_fr Kd [] pl0 pl1 ∧ tt_fa Kd [] pl0 pl1 ∧ ((r = some (.int (-1))) ∨ (∃ u0 : Nat, (0 : Int) ≤ (u0 : Int) ∧ (u0 : Int) ≤ 5 ∧ r = some (.int (nI (16 + 5 * u0)))))))) (jj_x D A (tt_OX (fun _ _ _ => False))) args s 0 0 A) (jj_X D A ([] ++ pl)) 0 0 2 [(3, .int (nI k_2)), (0, .ref h0), (1, .long p1)] [] := by
    intro NL_1
    induction NL_1 with
    | zero => intro pl k_2 _ hok hfr hfa hm hC lk_2 uk_2 hNL_1; exfalso; omega
    | succ NL_1 ihL_1 =>
      intro pl k_2 _ hok hfr hfa hm hC lk_2 uk_2 hNL_1
      replace ihL_1 := fun pl k_2 h1 => ihL_1 pl k_2 trivial h1
      refine jj_iload_n C dX11_placeOf_2 rfl ?_
      refine jj_i2l C dX11_placeOf_3 rfl ?_
      refine jj_aload_n C dX11_placeOf_4 rfl ?_
      refine tt_getF C hok jk_12 0 (by decide) jw_34eaf3ba8b (t := (2, 2, 0)) hk0 (by decide) rfl rfl hm.1 dX11_placeOf_5 ?_
      refine jj_bipush (v := 6) C dX11_placeOf_8 (by decide) ?_
      refine rl_lald C hok (t := (1, (-9223372036854775808), 9223372036854775807)) hkw (by decide) rfl (k := 6) (v := (f 6)) (vp_in_iff.mpr (by decide)) hC (by decide) rfl dX11_placeOf_10 ?_
      refine jj_lcmp_ge (tgt := 42) C dX11_placeOf_11 dX11_placeOf_12 (by decide) (fun c_3 => ?_) (fun c_3 => ?_)
      · have z_c_3 := jc_leL (a := (f 6).toInt) (b := ((k_2 : Nat) : Int)) c_3 rfl (rl_tl (by omega))
        refine jj_iconst (v := (-1)) C dX11_placeOf_42 (by decide) ?_
        exact jj_iret C ⟨[], pl, rfl, rfl, hok, hfr, hfa, (Or.inl rfl)⟩ dX11_placeOf_43 (jj_le rfl) (jj_le rfl)
      · have z_c_3 := jc_nleL (a := (f 6).toInt) (b := ((k_2 : Nat) : Int)) c_3 rfl (rl_tl (by omega))
        refine jj_aload_n C dX11_placeOf_15 rfl ?_
        refine tt_getF C hok jk_12 0 (by decide) jw_34eaf3ba8b (t := (2, 2, 0)) hk0 (by decide) rfl rfl hm.1 dX11_placeOf_16 ?_
        refine jj_iload_n C dX11_placeOf_19 rfl ?_
        refine tt_call0S (rest := [.ref aw]) C (rn_seriesAt hl D cA ak k_2 (16 + 5 * k_2) (by omega)) jw_6251557f40 jw_b2cd40a13f jw_f96c99f44d jw_6245231363 jn_X11_seriesAt rfl (jj_le rfl) (jj_le rfl) (jj_le rfl) (jj_le rfl) (jj_le rfl) dX11_placeOf_20 rfl (fun w1 r hO => ?_)
        obtain ⟨-, rfl⟩ := hO
        refine jj_iconst (v := 0) C dX11_placeOf_23 (by decide) ?_
        refine jj_iadd (v := nI (16 + 5 * k_2)) C dX11_placeOf_24 (rl_addR (kn := 0) (by decide) (by omega)) ?_
        refine rl_lald C hok (t := (1, (-9223372036854775808), 9223372036854775807)) hkw (by decide) rfl (k := 16 + 5 * k_2) (v := (f (16 + 5 * k_2))) (vp_in_nI (by omega) (by decide)) hC (nI_clamp (by omega)) rfl dX11_placeOf_25 ?_
        refine jj_lload_n C dX11_placeOf_26 rfl ?_
        refine jj_lcmp_ne (tgt := 36) C dX11_placeOf_27 dX11_placeOf_28 (by decide) (fun c_4 => ?_) (fun c_4 => ?_)
        · have z_c_4 := jc_neqL (a := (f (16 + 5 * k_2)).toInt) (b := p1.toInt) c_4 rfl rfl
          refine jj_iinc (v := nI (1 + k_2)) C dX11_placeOf_36 rfl (rl_addR (kn := 1) (by decide) (by omega)) (by decide) rfl ?_
          refine jj_goto (tgt := 2) C dX11_placeOf_39 (by decide) ?_
          exact ihL_1 pl (1 + k_2) hok hfr hfa hm hC (by first | omega | decide | exact tt_lo _ | exact tt_hi _) (by first | omega | decide | exact tt_lo _ | exact tt_hi _) (by first | omega | decide | exact tt_lo _ | exact tt_hi _)
        · have z_c_4 := jc_eqL (a := (f (16 + 5 * k_2)).toInt) (b := p1.toInt) c_4 rfl rfl
          refine jj_iload_n C dX11_placeOf_31 rfl ?_
          refine tt_call0S (rest := []) C (rn_seriesAt hl D cA ak k_2 (16 + 5 * k_2) (by omega)) jw_6251557f40 jw_b2cd40a13f jw_f96c99f44d jw_6245231363 jn_X11_seriesAt rfl (jj_le rfl) (jj_le rfl) (jj_le rfl) (jj_le rfl) (jj_le rfl) dX11_placeOf_32 rfl (fun w1 r hO => ?_)
          obtain ⟨-, rfl⟩ := hO
          exact jj_iret C ⟨[], pl, rfl, rfl, hok, hfr, hfa, (Or.inr ⟨k_2, (by omega), (by omega), rfl⟩)⟩ dX11_placeOf_35 (jj_le rfl) (jj_le rfl)
  exact hL_1 _ pl0 0 trivial hok hfr hfa hm hC (by first | omega | decide | exact tt_lo _ | exact tt_hi _) (by first | omega | decide | exact tt_lo _ | exact tt_hi _) (Int.self_le_toNat _)

set_option maxHeartbeats 4000000 in
set_option maxRecDepth 100000 in
theorem rc_X11_unitsBy_d8d95c {l : Launch} (hl : l.stackTraces = false) (D : va_G) (cA : Nat → ClassId) (ak : (Nat → Nat) × (Nat → Nat)) {Kd : Nat → Nat} {h0 aw aa at0 ai af ap : Nat} (p1 : Int32) (f : Nat → Int64) (hk0 : Kd h0 = 1) (hkw : Kd aw = 2) (hka : Kd aa = 3) (hkt : Kd at0 = 4) (hki : Kd ai = 5) (hkf : Kd af = 6) (hkp : Kd ap = 7) (hH : rl_h f) {pl0 : va_W} (hok : tt_ok rt_tk cA Kd pl0) (hm : rl_m pl0 h0 aw aa at0 ai af ap) (hC : tt_lc pl0 aw f) : jj_M l D cA ak yX11_unitsBy (.code yX11_unitsBy cX11_unitsBy 5 (some .long)) 1 20 0 0 ([] ++ pl0) [.ref h0, .int p1] (tt_O (fun rx pl1 r => rx = [] ∧ tt_ok rt_tk cA Kd pl1 ∧ tt_fr Kd [] pl0 pl1 ∧ tt_fa Kd [] pl0 pl1 ∧ ((∃ v : Int64, r = some (.long v))))) (tt_OX (fun _ _ _ => False)) := by
  refine jj_start hl (by decide) jw_6f23c3bc30 (jj_le rfl) ?_
  intro p e s m args below meth c A hargs hA C hex hmn
  have hfr := tt_fr.refl (K := Kd) (WS := []) pl0
  have hfa := tt_fa.refl (K := Kd) (WA := []) pl0
  have lp1 := tt_lo p1
  have up1 := tt_hi p1
  obtain ⟨⟨g0a, g0b⟩, ⟨g1a, g1b⟩, ⟨g6a, g6b⟩, ⟨g7a, g7b⟩, ⟨g8a, g8b⟩⟩ := hH
  refine jj_lconst (v := 0) C dX11_unitsBy_0 (by decide) ?_
  refine jj_lstore_n C dX11_unitsBy_1 (by decide) rfl ?_
  refine jj_iconst (v := 0) C dX11_unitsBy_2 (by decide) ?_
  refine jj_istore C dX11_unitsBy_3 (by decide) rfl ?_
  have hL_1 : ∀ (N : Nat) (pl : va_W) (k_2 : Nat) (y_3 : Int64), True → tt_ok rt_tk cA Kd pl → tt_fr Kd [] pl0 pl → tt_fa Kd [] pl0 pl → rl_m pl h0 aw aa at0 ai af ap → tt_lc pl aw f → (0 : Int) ≤ (k_2 : Int) → (k_2 : Int) ≤ 40 → (2147483648 - (k_2 : Int) ≤ (N : Int)) → jj_J p l e (jj_rm 1 20 0 0) s m args below meth c 5 A (vx_MQ below (jj_q D A (tt_O (fun rx pl1 r => rx = [] ∧ tt_ok rt_tk cA Kd pl1 ∧ tt_fr Kd [] pl0 pl1 ∧ tt_fa Kd [] pl0 pl1 ∧ ((∃ v : Int64, r = some (.long v)))))) (jj_x D A (tt_OX (fun _ _ _ => False))) args s 0 0 A) (jj_X D A ([] ++ pl)) 0 0 5 [(4, .int (nI k_2)), (2, .long y_3), (0, .ref h0), (1, .int p1)] [] := by
    intro NL_1
    induction NL_1 with
    | zero => intro pl k_2 y_3 _ hok hfr hfa hm hC lk_2 uk_2 hNL_1; exfalso; omega
    | succ NL_1 ihL_1 =>
      intro pl k_2 y_3 _ hok hfr hfa hm hC lk_2 uk_2 hNL_1
      replace ihL_1 := fun pl k_2 y_3 h1 => ihL_1 pl k_2 y_3 trivial h1
      refine jj_iload C dX11_unitsBy_5 rfl ?_
      refine jj_i2l C dX11_unitsBy_7 rfl ?_
      refine jj_aload_n C dX11_unitsBy_8 rfl ?_
      refine tt_getF C hok jk_12 0 (by decide) jw_34eaf3ba8b (t := (2, 2, 0)) hk0 (by decide) rfl rfl hm.1 dX11_unitsBy_9 ?_
      refine jj_bipush (v := 7) C dX11_unitsBy_12 (by decide) ?_
      refine rl_lald C hok (t := (1, (-9223372036854775808), 9223372036854775807)) hkw (by decide) rfl (k := 7) (v := (f 7)) (vp_in_iff.mpr (by decide)) hC (by decide) rfl dX11_unitsBy_14 ?_
      refine jj_lcmp_ge (tgt := 58) C dX11_unitsBy_15 dX11_unitsBy_16 (by decide) (fun c_4 => ?_) (fun c_4 => ?_)
      · have z_c_4 := jc_leL (a := (f 7).toInt) (b := ((k_2 : Nat) : Int)) c_4 rfl (rl_tl (by omega))
        refine jj_lload_n C dX11_unitsBy_58 rfl ?_
        exact jj_lret C ⟨[], pl, rfl, rfl, hok, hfr, hfa, ⟨y_3, rfl⟩⟩ dX11_unitsBy_59 (jj_le rfl) (jj_le rfl)
      · have z_c_4 := jc_nleL (a := (f 7).toInt) (b := ((k_2 : Nat) : Int)) c_4 rfl (rl_tl (by omega))
        refine jj_aload_n C dX11_unitsBy_19 rfl ?_
        refine tt_getF C hok jk_12 0 (by decide) jw_34eaf3ba8b (t := (2, 2, 0)) hk0 (by decide) rfl rfl hm.1 dX11_unitsBy_20 ?_
        refine jj_iload C dX11_unitsBy_23 rfl ?_
        refine tt_call0S (rest := [.ref aw]) C (rn_lotAt hl D cA ak k_2 (46 + 6 * k_2) (by omega)) jw_4c8c4b88e2 jw_0fa3e2bccb jw_f96c99f44d jw_d540d98a1c jn_X11_lotAt rfl (jj_le rfl) (jj_le rfl) (jj_le rfl) (jj_le rfl) (jj_le rfl) dX11_unitsBy_25 rfl (fun w1 r hO => ?_)
        obtain ⟨-, rfl⟩ := hO
        refine jj_iconst (v := 0) C dX11_unitsBy_28 (by decide) ?_
        refine jj_iadd (v := nI (46 + 6 * k_2)) C dX11_unitsBy_29 (rl_addR (kn := 0) (by decide) (by omega)) ?_
        refine rl_lald C hok (t := (1, (-9223372036854775808), 9223372036854775807)) hkw (by decide) rfl (k := 46 + 6 * k_2) (v := (f (46 + 6 * k_2))) (vp_in_nI (by omega) (by decide)) hC (nI_clamp (by omega)) rfl dX11_unitsBy_30 ?_
        refine jj_iload_n C dX11_unitsBy_31 rfl ?_
        obtain ⟨y_5, ey_5, vy_5⟩ := tt_i2l p1
        refine jj_i2l (v := y_5) C dX11_unitsBy_32 ey_5 ?_
        refine jj_lcmp_ne (tgt := 52) C dX11_unitsBy_33 dX11_unitsBy_34 (by decide) (fun c_6 => ?_) (fun c_6 => ?_)
        · have z_c_6 := jc_neqL (a := (f (46 + 6 * k_2)).toInt) (b := y_5.toInt) c_6 rfl rfl
          refine jj_iinc (v := nI (1 + k_2)) C dX11_unitsBy_52 rfl (rl_addR (kn := 1) (by decide) (by omega)) (by decide) rfl ?_
          refine jj_goto (tgt := 5) C dX11_unitsBy_55 (by decide) ?_
          exact ihL_1 pl (1 + k_2) y_3 hok hfr hfa hm hC (by first | omega | decide | exact tt_lo _ | exact tt_hi _) (by first | omega | decide | exact tt_lo _ | exact tt_hi _) (by first | omega | decide | exact tt_lo _ | exact tt_hi _)
        · have z_c_6 := jc_eqL (a := (f (46 + 6 * k_2)).toInt) (b := y_5.toInt) c_6 rfl rfl
          refine jj_lload_n C dX11_unitsBy_37 rfl ?_
          refine jj_aload_n C dX11_unitsBy_38 rfl ?_
          refine tt_getF C hok jk_12 0 (by decide) jw_34eaf3ba8b (t := (2, 2, 0)) hk0 (by decide) rfl rfl hm.1 dX11_unitsBy_39 ?_
          refine jj_iload C dX11_unitsBy_42 rfl ?_
          refine tt_call0S (rest := [.ref aw, .long y_3]) C (rn_lotAt hl D cA ak k_2 (46 + 6 * k_2) (by omega)) jw_4c8c4b88e2 jw_0fa3e2bccb jw_f96c99f44d jw_d540d98a1c jn_X11_lotAt rfl (jj_le rfl) (jj_le rfl) (jj_le rfl) (jj_le rfl) (jj_le rfl) dX11_unitsBy_44 rfl (fun w1 r hO => ?_)
          obtain ⟨-, rfl⟩ := hO
          refine jj_iconst (v := 2) C dX11_unitsBy_47 (by decide) ?_
          refine jj_iadd (v := nI (48 + 6 * k_2)) C dX11_unitsBy_48 (rl_addR (kn := 2) (by decide) (by omega)) ?_
          refine rl_lald C hok (t := (1, (-9223372036854775808), 9223372036854775807)) hkw (by decide) rfl (k := 48 + 6 * k_2) (v := (f (48 + 6 * k_2))) (vp_in_nI (by omega) (by decide)) hC (nI_clamp (by omega)) rfl dX11_unitsBy_49 ?_
          obtain ⟨y_7, ey_7⟩ : ∃ z : Int64, y_3 + (f (48 + 6 * k_2)) = z := ⟨_, rfl⟩
          refine jj_ladd (v := y_7) C dX11_unitsBy_50 ey_7 ?_
          refine jj_lstore_n C dX11_unitsBy_51 (by decide) rfl ?_
          refine jj_iinc (v := nI (1 + k_2)) C dX11_unitsBy_52 rfl (rl_addR (kn := 1) (by decide) (by omega)) (by decide) rfl ?_
          refine jj_goto (tgt := 5) C dX11_unitsBy_55 (by decide) ?_
          exact ihL_1 pl (1 + k_2) y_7 hok hfr hfa hm hC (by first | omega | decide | exact tt_lo _ | exact tt_hi _) (by first | omega | decide | exact tt_lo _ | exact tt_hi _) (by first | omega | decide | exact tt_lo _ | exact tt_hi _)
  exact hL_1 _ pl0 0 (0 : Int64) trivial hok hfr hfa hm hC (by first | omega | decide | exact tt_lo _ | exact tt_hi _) (by first | omega | decide | exact tt_lo _ | exact tt_hi _) (Int.self_le_toNat _)

set_option maxHeartbeats 4000000 in
set_option maxRecDepth 100000 in
theorem rc_X11_isRedemption_a242b8 {l : Launch} (hl : l.stackTraces = false) (D : va_G) (cA : Nat → ClassId) (ak : (Nat → Nat) × (Nat → Nat)) {Kd : Nat → Nat} {h0 aw aa at0 ai af ap : Nat} (p1 : Nat) (f : Nat → Int64) (hk0 : Kd h0 = 1) (hkw : Kd aw = 2) (hka : Kd aa = 3) (hkt : Kd at0 = 4) (hki : Kd ai = 5) (hkf : Kd af = 6) (hkp : Kd ap = 7) (lp1 : (0 : Int) ≤ (p1 : Int)) (up1 : (p1 : Int) ≤ 0) (hH : rl_h f) {pl0 : va_W} (hok : tt_ok rt_tk cA Kd pl0) (hm : rl_m pl0 h0 aw aa at0 ai af ap) (hC : tt_lc pl0 aw f) : jj_M l D cA ak yX11_isRedemption (.code yX11_isRedemption cX11_isRedemption 2 (some .boolean)) 1 20 0 0 ([] ++ pl0) [.ref h0, .int (nI p1)] (tt_O (fun rx pl1 r => rx = [] ∧ tt_ok rt_tk cA Kd pl1 ∧ tt_fr Kd [] pl0 pl1 ∧ tt_fa Kd [] pl0 pl1 ∧ ((r = some (.int 0)) ∨ (r = some (.int 1))))) (tt_OX (fun _ _ _ => False)) := by
  refine jj_start hl (by decide) jw_978e8f4c07 (jj_le rfl) ?_
  intro p e s m args below meth c A hargs hA C hex hmn
  have hfr := tt_fr.refl (K := Kd) (WS := []) pl0
  have hfa := tt_fa.refl (K := Kd) (WA := []) pl0
  obtain ⟨⟨g0a, g0b⟩, ⟨g1a, g1b⟩, ⟨g6a, g6b⟩, ⟨g7a, g7b⟩, ⟨g8a, g8b⟩⟩ := hH
  refine jj_aload_n C dX11_isRedemption_0 rfl ?_
  refine tt_getF C hok jk_12 0 (by decide) jw_34eaf3ba8b (t := (2, 2, 0)) hk0 (by decide) rfl rfl hm.1 dX11_isRedemption_1 ?_
  refine jj_iload_n C dX11_isRedemption_4 rfl ?_
  refine tt_call0S (rest := [.ref aw]) C (rn_requestAt hl D cA ak p1 (286 + 4 * p1) (by omega)) jw_b399766b1e jw_c583cc9526 jw_f96c99f44d jw_595411e0f2 jn_X11_requestAt rfl (jj_le rfl) (jj_le rfl) (jj_le rfl) (jj_le rfl) (jj_le rfl) dX11_isRedemption_5 rfl (fun w1 r hO => ?_)
  obtain ⟨-, rfl⟩ := hO
  refine jj_iconst (v := 1) C dX11_isRedemption_8 (by decide) ?_
  refine jj_iadd (v := nI (287 + 4 * p1)) C dX11_isRedemption_9 (rl_addR (kn := 1) (by decide) (by omega)) ?_
  refine rl_lald C hok (t := (1, (-9223372036854775808), 9223372036854775807)) hkw (by decide) rfl (k := 287 + 4 * p1) (v := (f (287 + 4 * p1))) (vp_in_nI (by omega) (by decide)) hC (nI_clamp (by omega)) rfl dX11_isRedemption_10 ?_
  refine jj_lconst (v := 1) C dX11_isRedemption_11 (by decide) ?_
  refine jj_lcmp_ne (tgt := 20) C dX11_isRedemption_12 dX11_isRedemption_13 (by decide) (fun c_1 => ?_) (fun c_1 => ?_)
  · have z_c_1 := jc_neqL (a := (f (287 + 4 * p1)).toInt) (b := 1) c_1 rfl (by decide)
    refine jj_iconst (v := 0) C dX11_isRedemption_20 (by decide) ?_
    exact jj_zret C rfl ⟨[], pl0, rfl, rfl, hok, hfr, hfa, (Or.inl rfl)⟩ dX11_isRedemption_21 (jj_le rfl) (jj_le rfl)
  · have z_c_1 := jc_eqL (a := (f (287 + 4 * p1)).toInt) (b := 1) c_1 rfl (by decide)
    refine jj_iconst (v := 1) C dX11_isRedemption_16 (by decide) ?_
    refine jj_goto (tgt := 21) C dX11_isRedemption_17 (by decide) ?_
    exact jj_zret C rfl ⟨[], pl0, rfl, rfl, hok, hfr, hfa, (Or.inr rfl)⟩ dX11_isRedemption_21 (jj_le rfl) (jj_le rfl)

set_option maxHeartbeats 4000000 in
set_option maxRecDepth 100000 in
theorem rc_X11_isRedemption_1502d1 {l : Launch} (hl : l.stackTraces = false) (D : va_G) (cA : Nat → ClassId) (ak : (Nat → Nat) × (Nat → Nat)) {Kd : Nat → Nat} {h0 aw aa at0 ai af ap : Nat} (p1 : Nat) (f : Nat → Int64) (hk0 : Kd h0 = 1) (hkw : Kd aw = 2) (hka : Kd aa = 3) (hkt : Kd at0 = 4) (hki : Kd ai = 5) (hkf : Kd af = 6) (hkp : Kd ap = 7) (lp1 : (0 : Int) ≤ (p1 : Int)) (up1 : (p1 : Int) ≤ 1) (hH : rl_h f) {pl0 : va_W} (hok : tt_ok rt_tk cA Kd pl0) (hm : rl_m pl0 h0 aw aa at0 ai af ap) (hC : tt_lc pl0 aw f) : jj_M l D cA ak yX11_isRedemption (.code yX11_isRedemption cX11_isRedemption 2 (some .boolean)) 1 20 0 0 ([] ++ pl0) [.ref h0, .int (nI p1)] (tt_O (fun rx pl1 r => rx = [] ∧ tt_ok rt_tk cA Kd pl1 ∧ tt_fr Kd [] pl0 pl1 ∧ tt_fa Kd [] pl0 pl1 ∧ ((r = some (.int 0)) ∨ (r = some (.int 1))))) (tt_OX (fun _ _ _ => False)) := by
  refine jj_start hl (by decide) jw_978e8f4c07 (jj_le rfl) ?_
  intro p e s m args below meth c A hargs hA C hex hmn
  have hfr := tt_fr.refl (K := Kd) (WS := []) pl0
  have hfa := tt_fa.refl (K := Kd) (WA := []) pl0
  obtain ⟨⟨g0a, g0b⟩, ⟨g1a, g1b⟩, ⟨g6a, g6b⟩, ⟨g7a, g7b⟩, ⟨g8a, g8b⟩⟩ := hH
  refine jj_aload_n C dX11_isRedemption_0 rfl ?_
  refine tt_getF C hok jk_12 0 (by decide) jw_34eaf3ba8b (t := (2, 2, 0)) hk0 (by decide) rfl rfl hm.1 dX11_isRedemption_1 ?_
  refine jj_iload_n C dX11_isRedemption_4 rfl ?_
  refine tt_call0S (rest := [.ref aw]) C (rn_requestAt hl D cA ak p1 (286 + 4 * p1) (by omega)) jw_b399766b1e jw_c583cc9526 jw_f96c99f44d jw_595411e0f2 jn_X11_requestAt rfl (jj_le rfl) (jj_le rfl) (jj_le rfl) (jj_le rfl) (jj_le rfl) dX11_isRedemption_5 rfl (fun w1 r hO => ?_)
  obtain ⟨-, rfl⟩ := hO
  refine jj_iconst (v := 1) C dX11_isRedemption_8 (by decide) ?_
  refine jj_iadd (v := nI (287 + 4 * p1)) C dX11_isRedemption_9 (rl_addR (kn := 1) (by decide) (by omega)) ?_
  refine rl_lald C hok (t := (1, (-9223372036854775808), 9223372036854775807)) hkw (by decide) rfl (k := 287 + 4 * p1) (v := (f (287 + 4 * p1))) (vp_in_nI (by omega) (by decide)) hC (nI_clamp (by omega)) rfl dX11_isRedemption_10 ?_
  refine jj_lconst (v := 1) C dX11_isRedemption_11 (by decide) ?_
  refine jj_lcmp_ne (tgt := 20) C dX11_isRedemption_12 dX11_isRedemption_13 (by decide) (fun c_1 => ?_) (fun c_1 => ?_)
  · have z_c_1 := jc_neqL (a := (f (287 + 4 * p1)).toInt) (b := 1) c_1 rfl (by decide)
    refine jj_iconst (v := 0) C dX11_isRedemption_20 (by decide) ?_
    exact jj_zret C rfl ⟨[], pl0, rfl, rfl, hok, hfr, hfa, (Or.inl rfl)⟩ dX11_isRedemption_21 (jj_le rfl) (jj_le rfl)
  · have z_c_1 := jc_eqL (a := (f (287 + 4 * p1)).toInt) (b := 1) c_1 rfl (by decide)
    refine jj_iconst (v := 1) C dX11_isRedemption_16 (by decide) ?_
    refine jj_goto (tgt := 21) C dX11_isRedemption_17 (by decide) ?_
    exact jj_zret C rfl ⟨[], pl0, rfl, rfl, hok, hfr, hfa, (Or.inr rfl)⟩ dX11_isRedemption_21 (jj_le rfl) (jj_le rfl)

set_option maxHeartbeats 4000000 in
set_option maxRecDepth 100000 in
theorem rc_X11_isRedemption_894e66 {l : Launch} (hl : l.stackTraces = false) (D : va_G) (cA : Nat → ClassId) (ak : (Nat → Nat) × (Nat → Nat)) {Kd : Nat → Nat} {h0 aw aa at0 ai af ap : Nat} (p1 : Nat) (f : Nat → Int64) (hk0 : Kd h0 = 1) (hkw : Kd aw = 2) (hka : Kd aa = 3) (hkt : Kd at0 = 4) (hki : Kd ai = 5) (hkf : Kd af = 6) (hkp : Kd ap = 7) (lp1 : (0 : Int) ≤ (p1 : Int)) (up1 : (p1 : Int) ≤ 5) (hH : rl_h f) {pl0 : va_W} (hok : tt_ok rt_tk cA Kd pl0) (hm : rl_m pl0 h0 aw aa at0 ai af ap) (hC : tt_lc pl0 aw f) : jj_M l D cA ak yX11_isRedemption (.code yX11_isRedemption cX11_isRedemption 2 (some .boolean)) 1 20 0 0 ([] ++ pl0) [.ref h0, .int (nI p1)] (tt_O (fun rx pl1 r => rx = [] ∧ tt_ok rt_tk cA Kd pl1 ∧ tt_fr Kd [] pl0 pl1 ∧ tt_fa Kd [] pl0 pl1 ∧ ((r = some (.int 0)) ∨ (r = some (.int 1))))) (tt_OX (fun _ _ _ => False)) := by
  refine jj_start hl (by decide) jw_978e8f4c07 (jj_le rfl) ?_
  intro p e s m args below meth c A hargs hA C hex hmn
  have hfr := tt_fr.refl (K := Kd) (WS := []) pl0
  have hfa := tt_fa.refl (K := Kd) (WA := []) pl0
  obtain ⟨⟨g0a, g0b⟩, ⟨g1a, g1b⟩, ⟨g6a, g6b⟩, ⟨g7a, g7b⟩, ⟨g8a, g8b⟩⟩ := hH
  refine jj_aload_n C dX11_isRedemption_0 rfl ?_
  refine tt_getF C hok jk_12 0 (by decide) jw_34eaf3ba8b (t := (2, 2, 0)) hk0 (by decide) rfl rfl hm.1 dX11_isRedemption_1 ?_
  refine jj_iload_n C dX11_isRedemption_4 rfl ?_
  refine tt_call0S (rest := [.ref aw]) C (rn_requestAt hl D cA ak p1 (286 + 4 * p1) (by omega)) jw_b399766b1e jw_c583cc9526 jw_f96c99f44d jw_595411e0f2 jn_X11_requestAt rfl (jj_le rfl) (jj_le rfl) (jj_le rfl) (jj_le rfl) (jj_le rfl) dX11_isRedemption_5 rfl (fun w1 r hO => ?_)
  obtain ⟨-, rfl⟩ := hO
  refine jj_iconst (v := 1) C dX11_isRedemption_8 (by decide) ?_
  refine jj_iadd (v := nI (287 + 4 * p1)) C dX11_isRedemption_9 (rl_addR (kn := 1) (by decide) (by omega)) ?_
  refine rl_lald C hok (t := (1, (-9223372036854775808), 9223372036854775807)) hkw (by decide) rfl (k := 287 + 4 * p1) (v := (f (287 + 4 * p1))) (vp_in_nI (by omega) (by decide)) hC (nI_clamp (by omega)) rfl dX11_isRedemption_10 ?_
  refine jj_lconst (v := 1) C dX11_isRedemption_11 (by decide) ?_
  refine jj_lcmp_ne (tgt := 20) C dX11_isRedemption_12 dX11_isRedemption_13 (by decide) (fun c_1 => ?_) (fun c_1 => ?_)
  · have z_c_1 := jc_neqL (a := (f (287 + 4 * p1)).toInt) (b := 1) c_1 rfl (by decide)
    refine jj_iconst (v := 0) C dX11_isRedemption_20 (by decide) ?_
    exact jj_zret C rfl ⟨[], pl0, rfl, rfl, hok, hfr, hfa, (Or.inl rfl)⟩ dX11_isRedemption_21 (jj_le rfl) (jj_le rfl)
  · have z_c_1 := jc_eqL (a := (f (287 + 4 * p1)).toInt) (b := 1) c_1 rfl (by decide)
    refine jj_iconst (v := 1) C dX11_isRedemption_16 (by decide) ?_
    refine jj_goto (tgt := 21) C dX11_isRedemption_17 (by decide) ?_
    exact jj_zret C rfl ⟨[], pl0, rfl, rfl, hok, hfr, hfa, (Or.inr rfl)⟩ dX11_isRedemption_21 (jj_le rfl) (jj_le rfl)

set_option maxHeartbeats 4000000 in
set_option maxRecDepth 100000 in
theorem rc_X11_isRedemption_6bbb43 {l : Launch} (hl : l.stackTraces = false) (D : va_G) (cA : Nat → ClassId) (ak : (Nat → Nat) × (Nat → Nat)) {Kd : Nat → Nat} {h0 aw aa at0 ai af ap : Nat} (p1 : Nat) (f : Nat → Int64) (hk0 : Kd h0 = 1) (hkw : Kd aw = 2) (hka : Kd aa = 3) (hkt : Kd at0 = 4) (hki : Kd ai = 5) (hkf : Kd af = 6) (hkp : Kd ap = 7) (lp1 : (0 : Int) ≤ (p1 : Int)) (up1 : (p1 : Int) ≤ 6) (hH : rl_h f) {pl0 : va_W} (hok : tt_ok rt_tk cA Kd pl0) (hm : rl_m pl0 h0 aw aa at0 ai af ap) (hC : tt_lc pl0 aw f) : jj_M l D cA ak yX11_isRedemption (.code yX11_isRedemption cX11_isRedemption 2 (some .boolean)) 1 20 0 0 ([] ++ pl0) [.ref h0, .int (nI p1)] (tt_O (fun rx pl1 r => rx = [] ∧ tt_ok rt_tk cA Kd pl1 ∧ tt_fr Kd [] pl0 pl1 ∧ tt_fa Kd [] pl0 pl1 ∧ ((r = some (.int 0)) ∨ (r = some (.int 1))))) (tt_OX (fun _ _ _ => False)) := by
  refine jj_start hl (by decide) jw_978e8f4c07 (jj_le rfl) ?_
  intro p e s m args below meth c A hargs hA C hex hmn
  have hfr := tt_fr.refl (K := Kd) (WS := []) pl0
  have hfa := tt_fa.refl (K := Kd) (WA := []) pl0
  obtain ⟨⟨g0a, g0b⟩, ⟨g1a, g1b⟩, ⟨g6a, g6b⟩, ⟨g7a, g7b⟩, ⟨g8a, g8b⟩⟩ := hH
  refine jj_aload_n C dX11_isRedemption_0 rfl ?_
  refine tt_getF C hok jk_12 0 (by decide) jw_34eaf3ba8b (t := (2, 2, 0)) hk0 (by decide) rfl rfl hm.1 dX11_isRedemption_1 ?_
  refine jj_iload_n C dX11_isRedemption_4 rfl ?_
  refine tt_call0S (rest := [.ref aw]) C (rn_requestAt hl D cA ak p1 (286 + 4 * p1) (by omega)) jw_b399766b1e jw_c583cc9526 jw_f96c99f44d jw_595411e0f2 jn_X11_requestAt rfl (jj_le rfl) (jj_le rfl) (jj_le rfl) (jj_le rfl) (jj_le rfl) dX11_isRedemption_5 rfl (fun w1 r hO => ?_)
  obtain ⟨-, rfl⟩ := hO
  refine jj_iconst (v := 1) C dX11_isRedemption_8 (by decide) ?_
  refine jj_iadd (v := nI (287 + 4 * p1)) C dX11_isRedemption_9 (rl_addR (kn := 1) (by decide) (by omega)) ?_
  refine rl_lald C hok (t := (1, (-9223372036854775808), 9223372036854775807)) hkw (by decide) rfl (k := 287 + 4 * p1) (v := (f (287 + 4 * p1))) (vp_in_nI (by omega) (by decide)) hC (nI_clamp (by omega)) rfl dX11_isRedemption_10 ?_
  refine jj_lconst (v := 1) C dX11_isRedemption_11 (by decide) ?_
  refine jj_lcmp_ne (tgt := 20) C dX11_isRedemption_12 dX11_isRedemption_13 (by decide) (fun c_1 => ?_) (fun c_1 => ?_)
  · have z_c_1 := jc_neqL (a := (f (287 + 4 * p1)).toInt) (b := 1) c_1 rfl (by decide)
    refine jj_iconst (v := 0) C dX11_isRedemption_20 (by decide) ?_
    exact jj_zret C rfl ⟨[], pl0, rfl, rfl, hok, hfr, hfa, (Or.inl rfl)⟩ dX11_isRedemption_21 (jj_le rfl) (jj_le rfl)
  · have z_c_1 := jc_eqL (a := (f (287 + 4 * p1)).toInt) (b := 1) c_1 rfl (by decide)
    refine jj_iconst (v := 1) C dX11_isRedemption_16 (by decide) ?_
    refine jj_goto (tgt := 21) C dX11_isRedemption_17 (by decide) ?_
    exact jj_zret C rfl ⟨[], pl0, rfl, rfl, hok, hfr, hfa, (Or.inr rfl)⟩ dX11_isRedemption_21 (jj_le rfl) (jj_le rfl)

set_option maxHeartbeats 4000000 in
set_option maxRecDepth 100000 in
theorem rc_X11_isRedemption_69160a {l : Launch} (hl : l.stackTraces = false) (D : va_G) (cA : Nat → ClassId) (ak : (Nat → Nat) × (Nat → Nat)) {Kd : Nat → Nat} {h0 aw aa at0 ai af ap : Nat} (p1 : Nat) (f : Nat → Int64) (hk0 : Kd h0 = 1) (hkw : Kd aw = 2) (hka : Kd aa = 3) (hkt : Kd at0 = 4) (hki : Kd ai = 5) (hkf : Kd af = 6) (hkp : Kd ap = 7) (lp1 : (0 : Int) ≤ (p1 : Int)) (up1 : (p1 : Int) ≤ 9) (hH : rl_h f) {pl0 : va_W} (hok : tt_ok rt_tk cA Kd pl0) (hm : rl_m pl0 h0 aw aa at0 ai af ap) (hC : tt_lc pl0 aw f) : jj_M l D cA ak yX11_isRedemption (.code yX11_isRedemption cX11_isRedemption 2 (some .boolean)) 1 20 0 0 ([] ++ pl0) [.ref h0, .int (nI p1)] (tt_O (fun rx pl1 r => rx = [] ∧ tt_ok rt_tk cA Kd pl1 ∧ tt_fr Kd [] pl0 pl1 ∧ tt_fa Kd [] pl0 pl1 ∧ ((r = some (.int 0)) ∨ (r = some (.int 1))))) (tt_OX (fun _ _ _ => False)) := by
  refine jj_start hl (by decide) jw_978e8f4c07 (jj_le rfl) ?_
  intro p e s m args below meth c A hargs hA C hex hmn
  have hfr := tt_fr.refl (K := Kd) (WS := []) pl0
  have hfa := tt_fa.refl (K := Kd) (WA := []) pl0
  obtain ⟨⟨g0a, g0b⟩, ⟨g1a, g1b⟩, ⟨g6a, g6b⟩, ⟨g7a, g7b⟩, ⟨g8a, g8b⟩⟩ := hH
  refine jj_aload_n C dX11_isRedemption_0 rfl ?_
  refine tt_getF C hok jk_12 0 (by decide) jw_34eaf3ba8b (t := (2, 2, 0)) hk0 (by decide) rfl rfl hm.1 dX11_isRedemption_1 ?_
  refine jj_iload_n C dX11_isRedemption_4 rfl ?_
  refine tt_call0S (rest := [.ref aw]) C (rn_requestAt hl D cA ak p1 (286 + 4 * p1) (by omega)) jw_b399766b1e jw_c583cc9526 jw_f96c99f44d jw_595411e0f2 jn_X11_requestAt rfl (jj_le rfl) (jj_le rfl) (jj_le rfl) (jj_le rfl) (jj_le rfl) dX11_isRedemption_5 rfl (fun w1 r hO => ?_)
  obtain ⟨-, rfl⟩ := hO
  refine jj_iconst (v := 1) C dX11_isRedemption_8 (by decide) ?_
  refine jj_iadd (v := nI (287 + 4 * p1)) C dX11_isRedemption_9 (rl_addR (kn := 1) (by decide) (by omega)) ?_
  refine rl_lald C hok (t := (1, (-9223372036854775808), 9223372036854775807)) hkw (by decide) rfl (k := 287 + 4 * p1) (v := (f (287 + 4 * p1))) (vp_in_nI (by omega) (by decide)) hC (nI_clamp (by omega)) rfl dX11_isRedemption_10 ?_
  refine jj_lconst (v := 1) C dX11_isRedemption_11 (by decide) ?_
  refine jj_lcmp_ne (tgt := 20) C dX11_isRedemption_12 dX11_isRedemption_13 (by decide) (fun c_1 => ?_) (fun c_1 => ?_)
  · have z_c_1 := jc_neqL (a := (f (287 + 4 * p1)).toInt) (b := 1) c_1 rfl (by decide)
    refine jj_iconst (v := 0) C dX11_isRedemption_20 (by decide) ?_
    exact jj_zret C rfl ⟨[], pl0, rfl, rfl, hok, hfr, hfa, (Or.inl rfl)⟩ dX11_isRedemption_21 (jj_le rfl) (jj_le rfl)
  · have z_c_1 := jc_eqL (a := (f (287 + 4 * p1)).toInt) (b := 1) c_1 rfl (by decide)
    refine jj_iconst (v := 1) C dX11_isRedemption_16 (by decide) ?_
    refine jj_goto (tgt := 21) C dX11_isRedemption_17 (by decide) ?_
    exact jj_zret C rfl ⟨[], pl0, rfl, rfl, hok, hfr, hfa, (Or.inr rfl)⟩ dX11_isRedemption_21 (jj_le rfl) (jj_le rfl)

set_option maxHeartbeats 4000000 in
set_option maxRecDepth 100000 in
theorem rc_X11_isRedemption_f1ec74 {l : Launch} (hl : l.stackTraces = false) (D : va_G) (cA : Nat → ClassId) (ak : (Nat → Nat) × (Nat → Nat)) {Kd : Nat → Nat} {h0 aw aa at0 ai af ap : Nat} (p1 : Nat) (f : Nat → Int64) (hk0 : Kd h0 = 1) (hkw : Kd aw = 2) (hka : Kd aa = 3) (hkt : Kd at0 = 4) (hki : Kd ai = 5) (hkf : Kd af = 6) (hkp : Kd ap = 7) (lp1 : (0 : Int) ≤ (p1 : Int)) (up1 : (p1 : Int) ≤ 10) (hH : rl_h f) {pl0 : va_W} (hok : tt_ok rt_tk cA Kd pl0) (hm : rl_m pl0 h0 aw aa at0 ai af ap) (hC : tt_lc pl0 aw f) : jj_M l D cA ak yX11_isRedemption (.code yX11_isRedemption cX11_isRedemption 2 (some .boolean)) 1 20 0 0 ([] ++ pl0) [.ref h0, .int (nI p1)] (tt_O (fun rx pl1 r => rx = [] ∧ tt_ok rt_tk cA Kd pl1 ∧ tt_fr Kd [] pl0 pl1 ∧ tt_fa Kd [] pl0 pl1 ∧ ((r = some (.int 0)) ∨ (r = some (.int 1))))) (tt_OX (fun _ _ _ => False)) := by
  refine jj_start hl (by decide) jw_978e8f4c07 (jj_le rfl) ?_
  intro p e s m args below meth c A hargs hA C hex hmn
  have hfr := tt_fr.refl (K := Kd) (WS := []) pl0
  have hfa := tt_fa.refl (K := Kd) (WA := []) pl0
  obtain ⟨⟨g0a, g0b⟩, ⟨g1a, g1b⟩, ⟨g6a, g6b⟩, ⟨g7a, g7b⟩, ⟨g8a, g8b⟩⟩ := hH
  refine jj_aload_n C dX11_isRedemption_0 rfl ?_
  refine tt_getF C hok jk_12 0 (by decide) jw_34eaf3ba8b (t := (2, 2, 0)) hk0 (by decide) rfl rfl hm.1 dX11_isRedemption_1 ?_
  refine jj_iload_n C dX11_isRedemption_4 rfl ?_
  refine tt_call0S (rest := [.ref aw]) C (rn_requestAt hl D cA ak p1 (286 + 4 * p1) (by omega)) jw_b399766b1e jw_c583cc9526 jw_f96c99f44d jw_595411e0f2 jn_X11_requestAt rfl (jj_le rfl) (jj_le rfl) (jj_le rfl) (jj_le rfl) (jj_le rfl) dX11_isRedemption_5 rfl (fun w1 r hO => ?_)
  obtain ⟨-, rfl⟩ := hO
  refine jj_iconst (v := 1) C dX11_isRedemption_8 (by decide) ?_
  refine jj_iadd (v := nI (287 + 4 * p1)) C dX11_isRedemption_9 (rl_addR (kn := 1) (by decide) (by omega)) ?_
  refine rl_lald C hok (t := (1, (-9223372036854775808), 9223372036854775807)) hkw (by decide) rfl (k := 287 + 4 * p1) (v := (f (287 + 4 * p1))) (vp_in_nI (by omega) (by decide)) hC (nI_clamp (by omega)) rfl dX11_isRedemption_10 ?_
  refine jj_lconst (v := 1) C dX11_isRedemption_11 (by decide) ?_
  refine jj_lcmp_ne (tgt := 20) C dX11_isRedemption_12 dX11_isRedemption_13 (by decide) (fun c_1 => ?_) (fun c_1 => ?_)
  · have z_c_1 := jc_neqL (a := (f (287 + 4 * p1)).toInt) (b := 1) c_1 rfl (by decide)
    refine jj_iconst (v := 0) C dX11_isRedemption_20 (by decide) ?_
    exact jj_zret C rfl ⟨[], pl0, rfl, rfl, hok, hfr, hfa, (Or.inl rfl)⟩ dX11_isRedemption_21 (jj_le rfl) (jj_le rfl)
  · have z_c_1 := jc_eqL (a := (f (287 + 4 * p1)).toInt) (b := 1) c_1 rfl (by decide)
    refine jj_iconst (v := 1) C dX11_isRedemption_16 (by decide) ?_
    refine jj_goto (tgt := 21) C dX11_isRedemption_17 (by decide) ?_
    exact jj_zret C rfl ⟨[], pl0, rfl, rfl, hok, hfr, hfa, (Or.inr rfl)⟩ dX11_isRedemption_21 (jj_le rfl) (jj_le rfl)

set_option maxHeartbeats 4000000 in
set_option maxRecDepth 100000 in
theorem rc_X11_isRedemption_af1e93 {l : Launch} (hl : l.stackTraces = false) (D : va_G) (cA : Nat → ClassId) (ak : (Nat → Nat) × (Nat → Nat)) {Kd : Nat → Nat} {h0 aw aa at0 ai af ap : Nat} (p1 : Nat) (f : Nat → Int64) (hk0 : Kd h0 = 1) (hkw : Kd aw = 2) (hka : Kd aa = 3) (hkt : Kd at0 = 4) (hki : Kd ai = 5) (hkf : Kd af = 6) (hkp : Kd ap = 7) (lp1 : (0 : Int) ≤ (p1 : Int)) (up1 : (p1 : Int) ≤ 11) (hH : rl_h f) {pl0 : va_W} (hok : tt_ok rt_tk cA Kd pl0) (hm : rl_m pl0 h0 aw aa at0 ai af ap) (hC : tt_lc pl0 aw f) : jj_M l D cA ak yX11_isRedemption (.code yX11_isRedemption cX11_isRedemption 2 (some .boolean)) 1 20 0 0 ([] ++ pl0) [.ref h0, .int (nI p1)] (tt_O (fun rx pl1 r => rx = [] ∧ tt_ok rt_tk cA Kd pl1 ∧ tt_fr Kd [] pl0 pl1 ∧ tt_fa Kd [] pl0 pl1 ∧ ((r = some (.int 0)) ∨ (r = some (.int 1))))) (tt_OX (fun _ _ _ => False)) := by
  refine jj_start hl (by decide) jw_978e8f4c07 (jj_le rfl) ?_
  intro p e s m args below meth c A hargs hA C hex hmn
  have hfr := tt_fr.refl (K := Kd) (WS := []) pl0
  have hfa := tt_fa.refl (K := Kd) (WA := []) pl0
  obtain ⟨⟨g0a, g0b⟩, ⟨g1a, g1b⟩, ⟨g6a, g6b⟩, ⟨g7a, g7b⟩, ⟨g8a, g8b⟩⟩ := hH
  refine jj_aload_n C dX11_isRedemption_0 rfl ?_
  refine tt_getF C hok jk_12 0 (by decide) jw_34eaf3ba8b (t := (2, 2, 0)) hk0 (by decide) rfl rfl hm.1 dX11_isRedemption_1 ?_
  refine jj_iload_n C dX11_isRedemption_4 rfl ?_
  refine tt_call0S (rest := [.ref aw]) C (rn_requestAt hl D cA ak p1 (286 + 4 * p1) (by omega)) jw_b399766b1e jw_c583cc9526 jw_f96c99f44d jw_595411e0f2 jn_X11_requestAt rfl (jj_le rfl) (jj_le rfl) (jj_le rfl) (jj_le rfl) (jj_le rfl) dX11_isRedemption_5 rfl (fun w1 r hO => ?_)
  obtain ⟨-, rfl⟩ := hO
  refine jj_iconst (v := 1) C dX11_isRedemption_8 (by decide) ?_
  refine jj_iadd (v := nI (287 + 4 * p1)) C dX11_isRedemption_9 (rl_addR (kn := 1) (by decide) (by omega)) ?_
  refine rl_lald C hok (t := (1, (-9223372036854775808), 9223372036854775807)) hkw (by decide) rfl (k := 287 + 4 * p1) (v := (f (287 + 4 * p1))) (vp_in_nI (by omega) (by decide)) hC (nI_clamp (by omega)) rfl dX11_isRedemption_10 ?_
  refine jj_lconst (v := 1) C dX11_isRedemption_11 (by decide) ?_
  refine jj_lcmp_ne (tgt := 20) C dX11_isRedemption_12 dX11_isRedemption_13 (by decide) (fun c_1 => ?_) (fun c_1 => ?_)
  · have z_c_1 := jc_neqL (a := (f (287 + 4 * p1)).toInt) (b := 1) c_1 rfl (by decide)
    refine jj_iconst (v := 0) C dX11_isRedemption_20 (by decide) ?_
    exact jj_zret C rfl ⟨[], pl0, rfl, rfl, hok, hfr, hfa, (Or.inl rfl)⟩ dX11_isRedemption_21 (jj_le rfl) (jj_le rfl)
  · have z_c_1 := jc_eqL (a := (f (287 + 4 * p1)).toInt) (b := 1) c_1 rfl (by decide)
    refine jj_iconst (v := 1) C dX11_isRedemption_16 (by decide) ?_
    refine jj_goto (tgt := 21) C dX11_isRedemption_17 (by decide) ?_
    exact jj_zret C rfl ⟨[], pl0, rfl, rfl, hok, hfr, hfa, (Or.inr rfl)⟩ dX11_isRedemption_21 (jj_le rfl) (jj_le rfl)

set_option maxHeartbeats 4000000 in
set_option maxRecDepth 100000 in
theorem rc_X11_waitingOf_d8d95c {l : Launch} (hl : l.stackTraces = false) (D : va_G) (cA : Nat → ClassId) (ak : (Nat → Nat) × (Nat → Nat)) {Kd : Nat → Nat} {h0 aw aa at0 ai af ap : Nat} (p1 : Int32) (f : Nat → Int64) (hk0 : Kd h0 = 1) (hkw : Kd aw = 2) (hka : Kd aa = 3) (hkt : Kd at0 = 4) (hki : Kd ai = 5) (hkf : Kd af = 6) (hkp : Kd ap = 7) (hH : rl_h f) {pl0 : va_W} (hok : tt_ok rt_tk cA Kd pl0) (hm : rl_m pl0 h0 aw aa at0 ai af ap) (hC : tt_lc pl0 aw f) : jj_M l D cA ak yX11_waitingOf (.code yX11_waitingOf cX11_waitingOf 5 (some .long)) 2 41 0 0 ([] ++ pl0) [.ref h0, .int p1] (tt_O (fun rx pl1 r => rx = [] ∧ tt_ok rt_tk cA Kd pl1 ∧ tt_fr Kd [] pl0 pl1 ∧ tt_fa Kd [] pl0 pl1 ∧ ((∃ v : Int64, r = some (.long v))))) (tt_OX (fun _ _ _ => False)) := by
  refine jj_start hl (by decide) jw_afcf941469 (jj_le rfl) ?_
  intro p e s m args below meth c A hargs hA C hex hmn
  have hfr := tt_fr.refl (K := Kd) (WS := []) pl0
  have hfa := tt_fa.refl (K := Kd) (WA := []) pl0
  have lp1 := tt_lo p1
  have up1 := tt_hi p1
  obtain ⟨⟨g0a, g0b⟩, ⟨g1a, g1b⟩, ⟨g6a, g6b⟩, ⟨g7a, g7b⟩, ⟨g8a, g8b⟩⟩ := hH
  refine jj_lconst (v := 0) C dX11_waitingOf_0 (by decide) ?_
  refine jj_lstore_n C dX11_waitingOf_1 (by decide) rfl ?_
  refine jj_iconst (v := 0) C dX11_waitingOf_2 (by decide) ?_
  refine jj_istore C dX11_waitingOf_3 (by decide) rfl ?_
  have hL_1 : ∀ (N : Nat) (pl : va_W) (k_2 : Nat) (y_3 : Int64), True → tt_ok rt_tk cA Kd pl → tt_fr Kd [] pl0 pl → tt_fa Kd [] pl0 pl → rl_m pl h0 aw aa at0 ai af ap → tt_lc pl aw f → (0 : Int) ≤ (k_2 : Int) → (k_2 : Int) ≤ 12 → (2147483648 - (k_2 : Int) ≤ (N : Int)) → jj_J p l e (jj_rm 2 41 0 0) s m args below meth c 5 A (vx_MQ below (jj_q D A (tt_O (fun rx pl1 r => rx = [] ∧ tt_ok rt_tk cA Kd pl1 ∧ tt_fr Kd [] pl0 pl1 ∧ tt_fa Kd [] pl0 pl1 ∧ ((∃ v : Int64, r = some (.long v)))))) (jj_x D A (tt_OX (fun _ _ _ => False))) args s 0 0 A) (jj_X D A ([] ++ pl)) 0 0 5 [(4, .int (nI k_2)), (2, .long y_3), (0, .ref h0), (1, .int p1)] [] := by
    intro NL_1
    induction NL_1 with
    | zero => intro pl k_2 y_3 _ hok hfr hfa hm hC lk_2 uk_2 hNL_1; exfalso; omega
    | succ NL_1 ihL_1 =>
      intro pl k_2 y_3 _ hok hfr hfa hm hC lk_2 uk_2 hNL_1
      replace ihL_1 := fun pl k_2 y_3 h1 => ihL_1 pl k_2 y_3 trivial h1
      refine jj_iload C dX11_waitingOf_5 rfl ?_
      refine jj_i2l C dX11_waitingOf_7 rfl ?_
      refine jj_aload_n C dX11_waitingOf_8 rfl ?_
      refine tt_getF C hok jk_12 0 (by decide) jw_34eaf3ba8b (t := (2, 2, 0)) hk0 (by decide) rfl rfl hm.1 dX11_waitingOf_9 ?_
      refine jj_bipush (v := 8) C dX11_waitingOf_12 (by decide) ?_
      refine rl_lald C hok (t := (1, (-9223372036854775808), 9223372036854775807)) hkw (by decide) rfl (k := 8) (v := (f 8)) (vp_in_iff.mpr (by decide)) hC (by decide) rfl dX11_waitingOf_14 ?_
      refine jj_lcmp_ge (tgt := 67) C dX11_waitingOf_15 dX11_waitingOf_16 (by decide) (fun c_4 => ?_) (fun c_4 => ?_)
      · have z_c_4 := jc_leL (a := (f 8).toInt) (b := ((k_2 : Nat) : Int)) c_4 rfl (rl_tl (by omega))
        refine jj_lload_n C dX11_waitingOf_67 rfl ?_
        exact jj_lret C ⟨[], pl, rfl, rfl, hok, hfr, hfa, ⟨y_3, rfl⟩⟩ dX11_waitingOf_68 (jj_le rfl) (jj_le rfl)
      · have z_c_4 := jc_nleL (a := (f 8).toInt) (b := ((k_2 : Nat) : Int)) c_4 rfl (rl_tl (by omega))
        refine jj_aload_n C dX11_waitingOf_19 rfl ?_
        refine jj_iload C dX11_waitingOf_20 rfl ?_
        obtain ⟨qc, gs, hqc⟩ := tt_recv (cx := []) hok hk0 (by decide) rfl
        refine tt_callV (rest := []) C (rc_X11_isRedemption_af1e93 hl D cA ak k_2 _ hk0 hkw hka hkt hki hkf hkp (by omega) (by omega) ⟨⟨g0a, g0b⟩, ⟨g1a, g1b⟩, ⟨g6a, g6b⟩, ⟨g7a, g7b⟩, ⟨g8a, g8b⟩⟩ hok hm hC) [] [] rfl rfl (by decide) (by decide) (by decide) qc hqc rfl rfl jw_4afadc9e32 jw_d8b192ed60 jw_21f07d63b9 jw_f96c99f44d jw_978e8f4c07 jn_X11_isRedemption rfl (jj_le rfl) (jj_le rfl) (jj_le rfl) (jj_le rfl) (jj_le rfl) dX11_waitingOf_22 rfl (fun _ _ _ hX => hX.elim) (fun rx pl_5 r O_9 => ?_)
        obtain ⟨rfl, hok_6, hr_7, ha_8, hR_10⟩ := O_9
        replace hC := ha_8.at hkw (by decide) (by decide) hC
        replace hm := hm.fr hr_7 hk0 rfl
        replace hfr := hfr.trans (hr_7.sub (by decide))
        replace hfa := hfa.trans (ha_8.sub (by decide))
        rcases hR_10 with rfl | rfl
        · refine jj_if_eqT (tgt := 61) C dX11_waitingOf_25 (by decide) (by decide) ?_
          refine jj_iinc (v := nI (1 + k_2)) C dX11_waitingOf_61 rfl (rl_addR (kn := 1) (by decide) (by omega)) (by decide) rfl ?_
          refine jj_goto (tgt := 5) C dX11_waitingOf_64 (by decide) ?_
          exact ihL_1 pl_5 (1 + k_2) y_3 hok_6 hfr hfa hm hC (by first | omega | decide | exact tt_lo _ | exact tt_hi _) (by first | omega | decide | exact tt_lo _ | exact tt_hi _) (by first | omega | decide | exact tt_lo _ | exact tt_hi _)
        · refine jj_if_eqF (tgt := 61) C dX11_waitingOf_25 (by decide) (by decide) ?_
          refine jj_aload_n C dX11_waitingOf_28 rfl ?_
          refine tt_getF C hok_6 jk_12 0 (by decide) jw_34eaf3ba8b (t := (2, 2, 0)) hk0 (by decide) rfl rfl hm.1 dX11_waitingOf_29 ?_
          refine jj_iload C dX11_waitingOf_32 rfl ?_
          refine tt_call0S (rest := [.ref aw]) C (rn_requestAt hl D cA ak k_2 (286 + 4 * k_2) (by omega)) jw_b399766b1e jw_c583cc9526 jw_f96c99f44d jw_595411e0f2 jn_X11_requestAt rfl (jj_le rfl) (jj_le rfl) (jj_le rfl) (jj_le rfl) (jj_le rfl) dX11_waitingOf_34 rfl (fun w1 r hO => ?_)
          obtain ⟨-, rfl⟩ := hO
          refine jj_iconst (v := 0) C dX11_waitingOf_37 (by decide) ?_
          refine jj_iadd (v := nI (286 + 4 * k_2)) C dX11_waitingOf_38 (rl_addR (kn := 0) (by decide) (by omega)) ?_
          refine rl_lald C hok_6 (t := (1, (-9223372036854775808), 9223372036854775807)) hkw (by decide) rfl (k := 286 + 4 * k_2) (v := (f (286 + 4 * k_2))) (vp_in_nI (by omega) (by decide)) hC (nI_clamp (by omega)) rfl dX11_waitingOf_39 ?_
          refine jj_iload_n C dX11_waitingOf_40 rfl ?_
          obtain ⟨y_11, ey_11, vy_11⟩ := tt_i2l p1
          refine jj_i2l (v := y_11) C dX11_waitingOf_41 ey_11 ?_
          refine jj_lcmp_ne (tgt := 61) C dX11_waitingOf_42 dX11_waitingOf_43 (by decide) (fun c_12 => ?_) (fun c_12 => ?_)
          · have z_c_12 := jc_neqL (a := (f (286 + 4 * k_2)).toInt) (b := y_11.toInt) c_12 rfl rfl
            refine jj_iinc (v := nI (1 + k_2)) C dX11_waitingOf_61 rfl (rl_addR (kn := 1) (by decide) (by omega)) (by decide) rfl ?_
            refine jj_goto (tgt := 5) C dX11_waitingOf_64 (by decide) ?_
            exact ihL_1 pl_5 (1 + k_2) y_3 hok_6 hfr hfa hm hC (by first | omega | decide | exact tt_lo _ | exact tt_hi _) (by first | omega | decide | exact tt_lo _ | exact tt_hi _) (by first | omega | decide | exact tt_lo _ | exact tt_hi _)
          · have z_c_12 := jc_eqL (a := (f (286 + 4 * k_2)).toInt) (b := y_11.toInt) c_12 rfl rfl
            refine jj_lload_n C dX11_waitingOf_46 rfl ?_
            refine jj_aload_n C dX11_waitingOf_47 rfl ?_
            refine tt_getF C hok_6 jk_12 0 (by decide) jw_34eaf3ba8b (t := (2, 2, 0)) hk0 (by decide) rfl rfl hm.1 dX11_waitingOf_48 ?_
            refine jj_iload C dX11_waitingOf_51 rfl ?_
            refine tt_call0S (rest := [.ref aw, .long y_3]) C (rn_requestAt hl D cA ak k_2 (286 + 4 * k_2) (by omega)) jw_b399766b1e jw_c583cc9526 jw_f96c99f44d jw_595411e0f2 jn_X11_requestAt rfl (jj_le rfl) (jj_le rfl) (jj_le rfl) (jj_le rfl) (jj_le rfl) dX11_waitingOf_53 rfl (fun w1 r hO => ?_)
            obtain ⟨-, rfl⟩ := hO
            refine jj_iconst (v := 2) C dX11_waitingOf_56 (by decide) ?_
            refine jj_iadd (v := nI (288 + 4 * k_2)) C dX11_waitingOf_57 (rl_addR (kn := 2) (by decide) (by omega)) ?_
            refine rl_lald C hok_6 (t := (1, (-9223372036854775808), 9223372036854775807)) hkw (by decide) rfl (k := 288 + 4 * k_2) (v := (f (288 + 4 * k_2))) (vp_in_nI (by omega) (by decide)) hC (nI_clamp (by omega)) rfl dX11_waitingOf_58 ?_
            obtain ⟨y_13, ey_13⟩ : ∃ z : Int64, y_3 + (f (288 + 4 * k_2)) = z := ⟨_, rfl⟩
            refine jj_ladd (v := y_13) C dX11_waitingOf_59 ey_13 ?_
            refine jj_lstore_n C dX11_waitingOf_60 (by decide) rfl ?_
            refine jj_iinc (v := nI (1 + k_2)) C dX11_waitingOf_61 rfl (rl_addR (kn := 1) (by decide) (by omega)) (by decide) rfl ?_
            refine jj_goto (tgt := 5) C dX11_waitingOf_64 (by decide) ?_
            exact ihL_1 pl_5 (1 + k_2) y_13 hok_6 hfr hfa hm hC (by first | omega | decide | exact tt_lo _ | exact tt_hi _) (by first | omega | decide | exact tt_lo _ | exact tt_hi _) (by first | omega | decide | exact tt_lo _ | exact tt_hi _)
  exact hL_1 _ pl0 0 (0 : Int64) trivial hok hfr hfa hm hC (by first | omega | decide | exact tt_lo _ | exact tt_hi _) (by first | omega | decide | exact tt_lo _ | exact tt_hi _) (Int.self_le_toNat _)

set_option maxHeartbeats 4000000 in
set_option maxRecDepth 100000 in
theorem rc_X11_isFull_9a6f36 {l : Launch} (hl : l.stackTraces = false) (D : va_G) (cA : Nat → ClassId) (ak : (Nat → Nat) × (Nat → Nat)) {Kd : Nat → Nat} {h0 aw aa at0 ai af ap : Nat} (f : Nat → Int64) (hk0 : Kd h0 = 1) (hkw : Kd aw = 2) (hka : Kd aa = 3) (hkt : Kd at0 = 4) (hki : Kd ai = 5) (hkf : Kd af = 6) (hkp : Kd ap = 7) (hH : rl_h f) {pl0 : va_W} (hok : tt_ok rt_tk cA Kd pl0) (hm : rl_m pl0 h0 aw aa at0 ai af ap) (hC : tt_lc pl0 aw f) : jj_M l D cA ak yX11_isFull (.code yX11_isFull cX11_isFull 1 (some .boolean)) 0 0 0 0 ([] ++ pl0) [.ref h0] (tt_O (fun rx pl1 r => rx = [] ∧ tt_ok rt_tk cA Kd pl1 ∧ tt_fr Kd [] pl0 pl1 ∧ tt_fa Kd [] pl0 pl1 ∧ ((r = some (.int 0)) ∨ (r = some (.int 1))))) (tt_OX (fun _ _ _ => False)) := by
  refine jj_start hl (by decide) jw_6b82d6ccbb (jj_le rfl) ?_
  intro p e s m args below meth c A hargs hA C hex hmn
  have hfr := tt_fr.refl (K := Kd) (WS := []) pl0
  have hfa := tt_fa.refl (K := Kd) (WA := []) pl0
  obtain ⟨⟨g0a, g0b⟩, ⟨g1a, g1b⟩, ⟨g6a, g6b⟩, ⟨g7a, g7b⟩, ⟨g8a, g8b⟩⟩ := hH
  refine jj_aload_n C dX11_isFull_0 rfl ?_
  refine tt_getF C hok jk_12 0 (by decide) jw_34eaf3ba8b (t := (2, 2, 0)) hk0 (by decide) rfl rfl hm.1 dX11_isFull_1 ?_
  refine jj_bipush (v := 8) C dX11_isFull_4 (by decide) ?_
  refine rl_lald C hok (t := (1, (-9223372036854775808), 9223372036854775807)) hkw (by decide) rfl (k := 8) (v := (f 8)) (vp_in_iff.mpr (by decide)) hC (by decide) rfl dX11_isFull_6 ?_
  refine jj_ldc2 (v := 12) C dX11_isFull_7 jw_f3ff61ad3e ?_
  refine jj_lcmp_ne (tgt := 18) C dX11_isFull_10 dX11_isFull_11 (by decide) (fun c_1 => ?_) (fun c_1 => ?_)
  · have z_c_1 := jc_neqL (a := (f 8).toInt) (b := 12) c_1 rfl (by decide)
    refine jj_iconst (v := 0) C dX11_isFull_18 (by decide) ?_
    exact jj_zret C rfl ⟨[], pl0, rfl, rfl, hok, hfr, hfa, (Or.inl rfl)⟩ dX11_isFull_19 (jj_le rfl) (jj_le rfl)
  · have z_c_1 := jc_eqL (a := (f 8).toInt) (b := 12) c_1 rfl (by decide)
    refine jj_iconst (v := 1) C dX11_isFull_14 (by decide) ?_
    refine jj_goto (tgt := 19) C dX11_isFull_15 (by decide) ?_
    exact jj_zret C rfl ⟨[], pl0, rfl, rfl, hok, hfr, hfa, (Or.inr rfl)⟩ dX11_isFull_19 (jj_le rfl) (jj_le rfl)

set_option maxHeartbeats 4000000 in
set_option maxRecDepth 100000 in
theorem rc_X11_canRedeem_bd5ac9 {l : Launch} (hl : l.stackTraces = false) (D : va_G) (cA : Nat → ClassId) (ak : (Nat → Nat) × (Nat → Nat)) {Kd : Nat → Nat} {h0 aw aa at0 ai af ap : Nat} (p1 : Int32) (p2 : Int32) (f : Nat → Int64) (hk0 : Kd h0 = 1) (hkw : Kd aw = 2) (hka : Kd aa = 3) (hkt : Kd at0 = 4) (hki : Kd ai = 5) (hkf : Kd af = 6) (hkp : Kd ap = 7) (hH : rl_h f) {pl0 : va_W} (hok : tt_ok rt_tk cA Kd pl0) (hm : rl_m pl0 h0 aw aa at0 ai af ap) (hC : tt_lc pl0 aw f) : jj_M l D cA ak yX11_canRedeem (.code yX11_canRedeem cX11_canRedeem 3 (some .boolean)) 3 65 0 0 ([] ++ pl0) [.ref h0, .int p1, .int p2] (tt_O (fun rx pl1 r => rx = [] ∧ tt_ok rt_tk cA Kd pl1 ∧ tt_fr Kd [] pl0 pl1 ∧ tt_fa Kd [] pl0 pl1 ∧ ((r = some (.int 0)) ∨ (r = some (.int 1))))) (tt_OX (fun _ _ _ => False)) := by
  refine jj_start hl (by decide) jw_e82ca6f874 (jj_le rfl) ?_
  intro p e s m args below meth c A hargs hA C hex hmn
  have hfr := tt_fr.refl (K := Kd) (WS := []) pl0
  have hfa := tt_fa.refl (K := Kd) (WA := []) pl0
  have lp1 := tt_lo p1
  have up1 := tt_hi p1
  have lp2 := tt_lo p2
  have up2 := tt_hi p2
  obtain ⟨⟨g0a, g0b⟩, ⟨g1a, g1b⟩, ⟨g6a, g6b⟩, ⟨g7a, g7b⟩, ⟨g8a, g8b⟩⟩ := hH
  refine jj_aload_n C dX11_canRedeem_0 rfl ?_
  obtain ⟨qc, gs, hqc⟩ := tt_recv (cx := []) hok hk0 (by decide) rfl
  refine tt_callV (rest := []) C (rc_X11_isFull_9a6f36 hl D cA ak _ hk0 hkw hka hkt hki hkf hkp ⟨⟨g0a, g0b⟩, ⟨g1a, g1b⟩, ⟨g6a, g6b⟩, ⟨g7a, g7b⟩, ⟨g8a, g8b⟩⟩ hok hm hC) [] [] rfl rfl (by decide) (by decide) (by decide) qc hqc rfl rfl jw_295437ea71 jw_d3b21ae075 jw_9b870e1ec6 jw_f96c99f44d jw_6b82d6ccbb jn_X11_isFull rfl (jj_le rfl) (jj_le rfl) (jj_le rfl) (jj_le rfl) (jj_le rfl) dX11_canRedeem_1 rfl (fun _ _ _ hX => hX.elim) (fun rx pl_1 r O_5 => ?_)
  obtain ⟨rfl, hok_2, hr_3, ha_4, hR_6⟩ := O_5
  replace hC := ha_4.at hkw (by decide) (by decide) hC
  replace hm := hm.fr hr_3 hk0 rfl
  replace hfr := hfr.trans (hr_3.sub (by decide))
  replace hfa := hfa.trans (ha_4.sub (by decide))
  rcases hR_6 with rfl | rfl
  · refine jj_if_neF (tgt := 28) C dX11_canRedeem_4 (by decide) (by decide) ?_
    refine jj_aload_n C dX11_canRedeem_7 rfl ?_
    refine jj_iload_n C dX11_canRedeem_8 rfl ?_
    obtain ⟨qc, gs, hqc⟩ := tt_recv (cx := []) hok_2 hk0 (by decide) rfl
    refine tt_callV (rest := []) C (rc_X11_waitingOf_d8d95c hl D cA ak p1 _ hk0 hkw hka hkt hki hkf hkp ⟨⟨g0a, g0b⟩, ⟨g1a, g1b⟩, ⟨g6a, g6b⟩, ⟨g7a, g7b⟩, ⟨g8a, g8b⟩⟩ hok_2 hm hC) [] [] rfl rfl (by decide) (by decide) (by decide) qc hqc rfl rfl jw_71a89613c3 jw_6ea26eaaba jw_a8d4f4f87c jw_f96c99f44d jw_afcf941469 jn_X11_waitingOf rfl (jj_le rfl) (jj_le rfl) (jj_le rfl) (jj_le rfl) (jj_le rfl) dX11_canRedeem_9 rfl (fun _ _ _ hX => hX.elim) (fun rx pl_7 r O_11 => ?_)
    obtain ⟨rfl, hok_8, hr_9, ha_10, hR_12⟩ := O_11
    replace hC := ha_10.at hkw (by decide) (by decide) hC
    replace hm := hm.fr hr_9 hk0 rfl
    replace hfr := hfr.trans (hr_9.sub (by decide))
    replace hfa := hfa.trans (ha_10.sub (by decide))
    obtain ⟨y_13, rfl⟩ := hR_12
    refine jj_iload_n C dX11_canRedeem_12 rfl ?_
    obtain ⟨y_14, ey_14, vy_14⟩ := tt_i2l p2
    refine jj_i2l (v := y_14) C dX11_canRedeem_13 ey_14 ?_
    obtain ⟨y_15, ey_15⟩ : ∃ z : Int64, y_13 + y_14 = z := ⟨_, rfl⟩
    refine jj_ladd (v := y_15) C dX11_canRedeem_14 ey_15 ?_
    refine jj_aload_n C dX11_canRedeem_15 rfl ?_
    refine jj_iload_n C dX11_canRedeem_16 rfl ?_
    obtain ⟨qc, gs, hqc⟩ := tt_recv (cx := []) hok_8 hk0 (by decide) rfl
    refine tt_callV (rest := [.long y_15]) C (rc_X11_unitsBy_d8d95c hl D cA ak p1 _ hk0 hkw hka hkt hki hkf hkp ⟨⟨g0a, g0b⟩, ⟨g1a, g1b⟩, ⟨g6a, g6b⟩, ⟨g7a, g7b⟩, ⟨g8a, g8b⟩⟩ hok_8 hm hC) [] [] rfl rfl (by decide) (by decide) (by decide) qc hqc rfl rfl jw_d258851c0a jw_53672f19d9 jw_faff4a546a jw_f96c99f44d jw_6f23c3bc30 jn_X11_unitsBy rfl (jj_le rfl) (jj_le rfl) (jj_le rfl) (jj_le rfl) (jj_le rfl) dX11_canRedeem_17 rfl (fun _ _ _ hX => hX.elim) (fun rx pl_16 r O_20 => ?_)
    obtain ⟨rfl, hok_17, hr_18, ha_19, hR_21⟩ := O_20
    replace hC := ha_19.at hkw (by decide) (by decide) hC
    replace hm := hm.fr hr_18 hk0 rfl
    replace hfr := hfr.trans (hr_18.sub (by decide))
    replace hfa := hfa.trans (ha_19.sub (by decide))
    obtain ⟨y_22, rfl⟩ := hR_21
    refine jj_lcmp_gt (tgt := 28) C dX11_canRedeem_20 dX11_canRedeem_21 (by decide) (fun c_23 => ?_) (fun c_23 => ?_)
    · have z_c_23 := jc_ltL (a := y_22.toInt) (b := y_15.toInt) c_23 rfl rfl
      refine jj_iconst (v := 0) C dX11_canRedeem_28 (by decide) ?_
      exact jj_zret C rfl ⟨[], pl_16, rfl, rfl, hok_17, hfr, hfa, (Or.inl rfl)⟩ dX11_canRedeem_29 (jj_le rfl) (jj_le rfl)
    · have z_c_23 := jc_nltL (a := y_22.toInt) (b := y_15.toInt) c_23 rfl rfl
      refine jj_iconst (v := 1) C dX11_canRedeem_24 (by decide) ?_
      refine jj_goto (tgt := 29) C dX11_canRedeem_25 (by decide) ?_
      exact jj_zret C rfl ⟨[], pl_16, rfl, rfl, hok_17, hfr, hfa, (Or.inr rfl)⟩ dX11_canRedeem_29 (jj_le rfl) (jj_le rfl)
  · refine jj_if_neT (tgt := 28) C dX11_canRedeem_4 (by decide) (by decide) ?_
    refine jj_iconst (v := 0) C dX11_canRedeem_28 (by decide) ?_
    exact jj_zret C rfl ⟨[], pl_1, rfl, rfl, hok_2, hfr, hfa, (Or.inl rfl)⟩ dX11_canRedeem_29 (jj_le rfl) (jj_le rfl)

set_option maxHeartbeats 4000000 in
set_option maxRecDepth 100000 in
theorem rc_X11_heldIn_5a2a5a {l : Launch} (hl : l.stackTraces = false) (D : va_G) (cA : Nat → ClassId) (ak : (Nat → Nat) × (Nat → Nat)) {Kd : Nat → Nat} {h0 aw aa at0 ai af ap : Nat} (p1 : Int32) (p2 : Int64) (f : Nat → Int64) (hk0 : Kd h0 = 1) (hkw : Kd aw = 2) (hka : Kd aa = 3) (hkt : Kd at0 = 4) (hki : Kd ai = 5) (hkf : Kd af = 6) (hkp : Kd ap = 7) (hH : rl_h f) {pl0 : va_W} (hok : tt_ok rt_tk cA Kd pl0) (hm : rl_m pl0 h0 aw aa at0 ai af ap) (hC : tt_lc pl0 aw f) : jj_M l D cA ak yX11_heldIn (.code yX11_heldIn cX11_heldIn 8 (some .long)) 1 20 0 0 ([] ++ pl0) [.ref h0, .int p1, .long p2] (tt_O (fun rx pl1 r => rx = [] ∧ tt_ok rt_tk cA Kd pl1 ∧ tt_fr Kd [] pl0 pl1 ∧ tt_fa Kd [] pl0 pl1 ∧ ((∃ v : Int64, r = some (.long v))))) (tt_OX (fun _ _ _ => False)) := by
  refine jj_start hl (by decide) jw_f6a1ea64f5 (jj_le rfl) ?_
  intro p e s m args below meth c A hargs hA C hex hmn
  have hfr := tt_fr.refl (K := Kd) (WS := []) pl0
  have hfa := tt_fa.refl (K := Kd) (WA := []) pl0
  have lp1 := tt_lo p1
  have up1 := tt_hi p1
  obtain ⟨⟨g0a, g0b⟩, ⟨g1a, g1b⟩, ⟨g6a, g6b⟩, ⟨g7a, g7b⟩, ⟨g8a, g8b⟩⟩ := hH
  refine jj_lconst (v := 0) C dX11_heldIn_0 (by decide) ?_
  refine jj_lstore C dX11_heldIn_1 (by decide) rfl ?_
  refine jj_iconst (v := 0) C dX11_heldIn_3 (by decide) ?_
  refine jj_istore C dX11_heldIn_4 (by decide) rfl ?_
  have hL_1 : ∀ (N : Nat) (pl : va_W) (k_2 : Nat) (y_3 : Int64), True → tt_ok rt_tk cA Kd pl → tt_fr Kd [] pl0 pl → tt_fa Kd [] pl0 pl → rl_m pl h0 aw aa at0 ai af ap → tt_lc pl aw f → (0 : Int) ≤ (k_2 : Int) → (k_2 : Int) ≤ 40 → (2147483648 - (k_2 : Int) ≤ (N : Int)) → jj_J p l e (jj_rm 1 20 0 0) s m args below meth c 8 A (vx_MQ below (jj_q D A (tt_O (fun rx pl1 r => rx = [] ∧ tt_ok rt_tk cA Kd pl1 ∧ tt_fr Kd [] pl0 pl1 ∧ tt_fa Kd [] pl0 pl1 ∧ ((∃ v : Int64, r = some (.long v)))))) (jj_x D A (tt_OX (fun _ _ _ => False))) args s 0 0 A) (jj_X D A ([] ++ pl)) 0 0 6 [(6, .int (nI k_2)), (4, .long y_3), (0, .ref h0), (1, .int p1), (2, .long p2)] [] := by
    intro NL_1
    induction NL_1 with
    | zero => intro pl k_2 y_3 _ hok hfr hfa hm hC lk_2 uk_2 hNL_1; exfalso; omega
    | succ NL_1 ihL_1 =>
      intro pl k_2 y_3 _ hok hfr hfa hm hC lk_2 uk_2 hNL_1
      replace ihL_1 := fun pl k_2 y_3 h1 => ihL_1 pl k_2 y_3 trivial h1
      refine jj_iload C dX11_heldIn_6 rfl ?_
      refine jj_i2l C dX11_heldIn_8 rfl ?_
      refine jj_aload_n C dX11_heldIn_9 rfl ?_
      refine tt_getF C hok jk_12 0 (by decide) jw_34eaf3ba8b (t := (2, 2, 0)) hk0 (by decide) rfl rfl hm.1 dX11_heldIn_10 ?_
      refine jj_bipush (v := 7) C dX11_heldIn_13 (by decide) ?_
      refine rl_lald C hok (t := (1, (-9223372036854775808), 9223372036854775807)) hkw (by decide) rfl (k := 7) (v := (f 7)) (vp_in_iff.mpr (by decide)) hC (by decide) rfl dX11_heldIn_15 ?_
      refine jj_lcmp_ge (tgt := 80) C dX11_heldIn_16 dX11_heldIn_17 (by decide) (fun c_4 => ?_) (fun c_4 => ?_)
      · have z_c_4 := jc_leL (a := (f 7).toInt) (b := ((k_2 : Nat) : Int)) c_4 rfl (rl_tl (by omega))
        refine jj_lload C dX11_heldIn_80 rfl ?_
        exact jj_lret C ⟨[], pl, rfl, rfl, hok, hfr, hfa, ⟨y_3, rfl⟩⟩ dX11_heldIn_82 (jj_le rfl) (jj_le rfl)
      · have z_c_4 := jc_nleL (a := (f 7).toInt) (b := ((k_2 : Nat) : Int)) c_4 rfl (rl_tl (by omega))
        refine jj_iload C dX11_heldIn_20 rfl ?_
        refine tt_call0S (rest := []) C (rn_lotAt hl D cA ak k_2 (46 + 6 * k_2) (by omega)) jw_4c8c4b88e2 jw_0fa3e2bccb jw_f96c99f44d jw_d540d98a1c jn_X11_lotAt rfl (jj_le rfl) (jj_le rfl) (jj_le rfl) (jj_le rfl) (jj_le rfl) dX11_heldIn_22 rfl (fun w1 r hO => ?_)
        obtain ⟨-, rfl⟩ := hO
        refine jj_istore C dX11_heldIn_25 (by decide) rfl ?_
        refine jj_lload C dX11_heldIn_27 rfl ?_
        refine jj_aload_n C dX11_heldIn_29 rfl ?_
        refine tt_getF C hok jk_12 0 (by decide) jw_34eaf3ba8b (t := (2, 2, 0)) hk0 (by decide) rfl rfl hm.1 dX11_heldIn_30 ?_
        refine jj_iload C dX11_heldIn_33 rfl ?_
        refine jj_iconst (v := 0) C dX11_heldIn_35 (by decide) ?_
        refine jj_iadd (v := nI (46 + 6 * k_2)) C dX11_heldIn_36 (rl_addR (kn := 0) (by decide) (by omega)) ?_
        refine rl_lald C hok (t := (1, (-9223372036854775808), 9223372036854775807)) hkw (by decide) rfl (k := 46 + 6 * k_2) (v := (f (46 + 6 * k_2))) (vp_in_nI (by omega) (by decide)) hC (nI_clamp (by omega)) rfl dX11_heldIn_37 ?_
        refine jj_iload_n C dX11_heldIn_38 rfl ?_
        obtain ⟨y_5, ey_5, vy_5⟩ := tt_i2l p1
        refine jj_i2l (v := y_5) C dX11_heldIn_39 ey_5 ?_
        refine jj_lcmp_ne (tgt := 70) C dX11_heldIn_40 dX11_heldIn_41 (by decide) (fun c_6 => ?_) (fun c_6 => ?_)
        · have z_c_6 := jc_neqL (a := (f (46 + 6 * k_2)).toInt) (b := y_5.toInt) c_6 rfl rfl
          refine jj_lconst (v := 0) C dX11_heldIn_70 (by decide) ?_
          obtain ⟨y_7, ey_7⟩ : ∃ z : Int64, y_3 + (0 : Int64) = z := ⟨_, rfl⟩
          refine jj_ladd (v := y_7) C dX11_heldIn_71 ey_7 ?_
          refine jj_lstore C dX11_heldIn_72 (by decide) rfl ?_
          refine jj_iinc (v := nI (1 + k_2)) C dX11_heldIn_74 rfl (rl_addR (kn := 1) (by decide) (by omega)) (by decide) rfl ?_
          refine jj_goto (tgt := 6) C dX11_heldIn_77 (by decide) ?_
          refine jj_loc [0, 1, 3, 4, 5] rfl ?_
          exact ihL_1 pl (1 + k_2) y_7 hok hfr hfa hm hC (by first | omega | decide | exact tt_lo _ | exact tt_hi _) (by first | omega | decide | exact tt_lo _ | exact tt_hi _) (by first | omega | decide | exact tt_lo _ | exact tt_hi _)
        · have z_c_6 := jc_eqL (a := (f (46 + 6 * k_2)).toInt) (b := y_5.toInt) c_6 rfl rfl
          refine jj_aload_n C dX11_heldIn_44 rfl ?_
          refine tt_getF C hok jk_12 0 (by decide) jw_34eaf3ba8b (t := (2, 2, 0)) hk0 (by decide) rfl rfl hm.1 dX11_heldIn_45 ?_
          refine jj_iload C dX11_heldIn_48 rfl ?_
          refine jj_iconst (v := 1) C dX11_heldIn_50 (by decide) ?_
          refine jj_iadd (v := nI (47 + 6 * k_2)) C dX11_heldIn_51 (rl_addR (kn := 1) (by decide) (by omega)) ?_
          refine rl_lald C hok (t := (1, (-9223372036854775808), 9223372036854775807)) hkw (by decide) rfl (k := 47 + 6 * k_2) (v := (f (47 + 6 * k_2))) (vp_in_nI (by omega) (by decide)) hC (nI_clamp (by omega)) rfl dX11_heldIn_52 ?_
          refine jj_lload_n C dX11_heldIn_53 rfl ?_
          refine jj_lcmp_ne (tgt := 70) C dX11_heldIn_54 dX11_heldIn_55 (by decide) (fun c_8 => ?_) (fun c_8 => ?_)
          · have z_c_8 := jc_neqL (a := (f (47 + 6 * k_2)).toInt) (b := p2.toInt) c_8 rfl rfl
            refine jj_lconst (v := 0) C dX11_heldIn_70 (by decide) ?_
            obtain ⟨y_9, ey_9⟩ : ∃ z : Int64, y_3 + (0 : Int64) = z := ⟨_, rfl⟩
            refine jj_ladd (v := y_9) C dX11_heldIn_71 ey_9 ?_
            refine jj_lstore C dX11_heldIn_72 (by decide) rfl ?_
            refine jj_iinc (v := nI (1 + k_2)) C dX11_heldIn_74 rfl (rl_addR (kn := 1) (by decide) (by omega)) (by decide) rfl ?_
            refine jj_goto (tgt := 6) C dX11_heldIn_77 (by decide) ?_
            refine jj_loc [0, 1, 3, 4, 5] rfl ?_
            exact ihL_1 pl (1 + k_2) y_9 hok hfr hfa hm hC (by first | omega | decide | exact tt_lo _ | exact tt_hi _) (by first | omega | decide | exact tt_lo _ | exact tt_hi _) (by first | omega | decide | exact tt_lo _ | exact tt_hi _)
          · have z_c_8 := jc_eqL (a := (f (47 + 6 * k_2)).toInt) (b := p2.toInt) c_8 rfl rfl
            refine jj_aload_n C dX11_heldIn_58 rfl ?_
            refine tt_getF C hok jk_12 0 (by decide) jw_34eaf3ba8b (t := (2, 2, 0)) hk0 (by decide) rfl rfl hm.1 dX11_heldIn_59 ?_
            refine jj_iload C dX11_heldIn_62 rfl ?_
            refine jj_iconst (v := 2) C dX11_heldIn_64 (by decide) ?_
            refine jj_iadd (v := nI (48 + 6 * k_2)) C dX11_heldIn_65 (rl_addR (kn := 2) (by decide) (by omega)) ?_
            refine rl_lald C hok (t := (1, (-9223372036854775808), 9223372036854775807)) hkw (by decide) rfl (k := 48 + 6 * k_2) (v := (f (48 + 6 * k_2))) (vp_in_nI (by omega) (by decide)) hC (nI_clamp (by omega)) rfl dX11_heldIn_66 ?_
            refine jj_goto (tgt := 71) C dX11_heldIn_67 (by decide) ?_
            obtain ⟨y_10, ey_10⟩ : ∃ z : Int64, y_3 + (f (48 + 6 * k_2)) = z := ⟨_, rfl⟩
            refine jj_ladd (v := y_10) C dX11_heldIn_71 ey_10 ?_
            refine jj_lstore C dX11_heldIn_72 (by decide) rfl ?_
            refine jj_iinc (v := nI (1 + k_2)) C dX11_heldIn_74 rfl (rl_addR (kn := 1) (by decide) (by omega)) (by decide) rfl ?_
            refine jj_goto (tgt := 6) C dX11_heldIn_77 (by decide) ?_
            refine jj_loc [0, 1, 3, 4, 5] rfl ?_
            exact ihL_1 pl (1 + k_2) y_10 hok hfr hfa hm hC (by first | omega | decide | exact tt_lo _ | exact tt_hi _) (by first | omega | decide | exact tt_lo _ | exact tt_hi _) (by first | omega | decide | exact tt_lo _ | exact tt_hi _)
  exact hL_1 _ pl0 0 (0 : Int64) trivial hok hfr hfa hm hC (by first | omega | decide | exact tt_lo _ | exact tt_hi _) (by first | omega | decide | exact tt_lo _ | exact tt_hi _) (Int.self_le_toNat _)

set_option maxHeartbeats 4000000 in
set_option maxRecDepth 100000 in
theorem rc_X11_byteAt_4afdc3 {l : Launch} (hl : l.stackTraces = false) (D : va_G) (cA : Nat → ClassId) (ak : (Nat → Nat) × (Nat → Nat)) {Kd : Nat → Nat} {h0 aw aa at0 ai af ap : Nat} (p1 : Int32) (hk0 : Kd h0 = 1) (hkw : Kd aw = 2) (hka : Kd aa = 3) (hkt : Kd at0 = 4) (hki : Kd ai = 5) (hkf : Kd af = 6) (hkp : Kd ap = 7) (lp1 : (0 : Int) ≤ p1.toInt) (up1 : p1.toInt ≤ 400) {pl0 : va_W} (hok : tt_ok rt_tk cA Kd pl0) (hm : rl_m pl0 h0 aw aa at0 ai af ap) : jj_M l D cA ak yX11_byteAt (.code yX11_byteAt cX11_byteAt 2 (some .int)) 0 0 0 0 ([] ++ pl0) [.ref h0, .int p1] (tt_O (fun rx pl1 r => rx = [] ∧ tt_ok rt_tk cA Kd pl1 ∧ tt_fr Kd [] pl0 pl1 ∧ tt_fa Kd [] pl0 pl1 ∧ ((r = some (.int (-1))) ∨ (∃ v : Int32, (-2147483648 : Int) ≤ v.toInt ∧ v.toInt ≤ 2147483647 ∧ (0 : Int) ≤ p1.toInt ∧ p1.toInt ≤ 399 ∧ r = some (.int v))))) (tt_OX (fun _ _ _ => False)) := by
  refine jj_start hl (by decide) jw_4737f96f0a (jj_le rfl) ?_
  intro p e s m args below meth c A hargs hA C hex hmn
  have hfr := tt_fr.refl (K := Kd) (WS := []) pl0
  have hfa := tt_fa.refl (K := Kd) (WA := []) pl0
  refine jj_iload_n C dX11_byteAt_0 rfl ?_
  refine jj_aload_n C dX11_byteAt_1 rfl ?_
  refine tt_get C hok jk_12 16 (by decide) jw_28b46cb90c (t := (0, 0, 400)) hk0 (by decide) rfl rfl dX11_byteAt_2 (fun v_1 hv_1 hf_2 => ?_)
  obtain ⟨x_3, rfl, lx_3, ux_3⟩ := tt_vi hv_1
  refine jj_icmp_ge (tgt := 21) C dX11_byteAt_5 (by decide) (fun c_4 => ?_) (fun c_4 => ?_)
  · have z_c_4 := jc_le (a := x_3.toInt) (b := p1.toInt) c_4 rfl rfl
    refine jj_iconst (v := (-1)) C dX11_byteAt_21 (by decide) ?_
    exact jj_iret C ⟨[], pl0, rfl, rfl, hok, hfr, hfa, (Or.inl rfl)⟩ dX11_byteAt_22 (jj_le rfl) (jj_le rfl)
  · have z_c_4 := jc_nle (a := x_3.toInt) (b := p1.toInt) c_4 rfl rfl
    refine jj_aload_n C dX11_byteAt_8 rfl ?_
    refine tt_get C hok jk_12 12 (by decide) jw_a4b356c796 (t := (2, 10, 0)) hk0 (by decide) rfl rfl dX11_byteAt_9 (fun v_5 hv_5 hf_6 => ?_)
    obtain ⟨a_7, rfl, ka_7⟩ := tt_vr hv_5
    refine jj_iload_n C dX11_byteAt_12 rfl ?_
    refine tt_bald C hok (t := (0, (-2147483648), 2147483647)) ka_7 (by decide) rfl (vp_in_iff.mpr ⟨by omega, by omega⟩) dX11_byteAt_13 (fun v_8 hv_8 => ?_)
    refine jj_sipush (v := 255) C dX11_byteAt_14 (by decide) ?_
    obtain ⟨x_9, ex_9⟩ : ∃ z : Int32, v_8 &&& (255 : Int32) = z := ⟨_, rfl⟩
    refine jj_iand (v := x_9) C dX11_byteAt_17 ex_9 ?_
    refine jj_goto (tgt := 22) C dX11_byteAt_18 (by decide) ?_
    exact jj_iret C ⟨[], pl0, rfl, rfl, hok, hfr, hfa, (Or.inr ⟨x_9, (by first | omega | exact tt_lo _ | exact tt_hi _), (by first | omega | exact tt_lo _ | exact tt_hi _), (by first | omega | exact tt_lo _ | exact tt_hi _), (by first | omega | exact tt_lo _ | exact tt_hi _), rfl⟩)⟩ dX11_byteAt_22 (jj_le rfl) (jj_le rfl)

set_option maxHeartbeats 4000000 in
set_option maxRecDepth 100000 in
theorem rc_X11_byteAt_f5f728 {l : Launch} (hl : l.stackTraces = false) (D : va_G) (cA : Nat → ClassId) (ak : (Nat → Nat) × (Nat → Nat)) {Kd : Nat → Nat} {h0 aw aa at0 ai af ap : Nat} (p1 : Int32) (hk0 : Kd h0 = 1) (hkw : Kd aw = 2) (hka : Kd aa = 3) (hkt : Kd at0 = 4) (hki : Kd ai = 5) (hkf : Kd af = 6) (hkp : Kd ap = 7) (lp1 : (0 : Int) ≤ p1.toInt) (up1 : p1.toInt ≤ 399) {pl0 : va_W} (hok : tt_ok rt_tk cA Kd pl0) (hm : rl_m pl0 h0 aw aa at0 ai af ap) : jj_M l D cA ak yX11_byteAt (.code yX11_byteAt cX11_byteAt 2 (some .int)) 0 0 0 0 ([] ++ pl0) [.ref h0, .int p1] (tt_O (fun rx pl1 r => rx = [] ∧ tt_ok rt_tk cA Kd pl1 ∧ tt_fr Kd [] pl0 pl1 ∧ tt_fa Kd [] pl0 pl1 ∧ ((r = some (.int (-1))) ∨ (∃ v : Int32, (-2147483648 : Int) ≤ v.toInt ∧ v.toInt ≤ 2147483647 ∧ r = some (.int v))))) (tt_OX (fun _ _ _ => False)) := by
  refine jj_start hl (by decide) jw_4737f96f0a (jj_le rfl) ?_
  intro p e s m args below meth c A hargs hA C hex hmn
  have hfr := tt_fr.refl (K := Kd) (WS := []) pl0
  have hfa := tt_fa.refl (K := Kd) (WA := []) pl0
  refine jj_iload_n C dX11_byteAt_0 rfl ?_
  refine jj_aload_n C dX11_byteAt_1 rfl ?_
  refine tt_get C hok jk_12 16 (by decide) jw_28b46cb90c (t := (0, 0, 400)) hk0 (by decide) rfl rfl dX11_byteAt_2 (fun v_1 hv_1 hf_2 => ?_)
  obtain ⟨x_3, rfl, lx_3, ux_3⟩ := tt_vi hv_1
  refine jj_icmp_ge (tgt := 21) C dX11_byteAt_5 (by decide) (fun c_4 => ?_) (fun c_4 => ?_)
  · have z_c_4 := jc_le (a := x_3.toInt) (b := p1.toInt) c_4 rfl rfl
    refine jj_iconst (v := (-1)) C dX11_byteAt_21 (by decide) ?_
    exact jj_iret C ⟨[], pl0, rfl, rfl, hok, hfr, hfa, (Or.inl rfl)⟩ dX11_byteAt_22 (jj_le rfl) (jj_le rfl)
  · have z_c_4 := jc_nle (a := x_3.toInt) (b := p1.toInt) c_4 rfl rfl
    refine jj_aload_n C dX11_byteAt_8 rfl ?_
    refine tt_get C hok jk_12 12 (by decide) jw_a4b356c796 (t := (2, 10, 0)) hk0 (by decide) rfl rfl dX11_byteAt_9 (fun v_5 hv_5 hf_6 => ?_)
    obtain ⟨a_7, rfl, ka_7⟩ := tt_vr hv_5
    refine jj_iload_n C dX11_byteAt_12 rfl ?_
    refine tt_bald C hok (t := (0, (-2147483648), 2147483647)) ka_7 (by decide) rfl (vp_in_iff.mpr ⟨by omega, by omega⟩) dX11_byteAt_13 (fun v_8 hv_8 => ?_)
    refine jj_sipush (v := 255) C dX11_byteAt_14 (by decide) ?_
    obtain ⟨x_9, ex_9⟩ : ∃ z : Int32, v_8 &&& (255 : Int32) = z := ⟨_, rfl⟩
    refine jj_iand (v := x_9) C dX11_byteAt_17 ex_9 ?_
    refine jj_goto (tgt := 22) C dX11_byteAt_18 (by decide) ?_
    exact jj_iret C ⟨[], pl0, rfl, rfl, hok, hfr, hfa, (Or.inr ⟨x_9, (by first | omega | exact tt_lo _ | exact tt_hi _), (by first | omega | exact tt_lo _ | exact tt_hi _), rfl⟩)⟩ dX11_byteAt_22 (jj_le rfl) (jj_le rfl)

set_option maxHeartbeats 4000000 in
set_option maxRecDepth 100000 in
theorem rc_X11_next_9a6f36 {l : Launch} (hl : l.stackTraces = false) (D : va_G) (cA : Nat → ClassId) (ak : (Nat → Nat) × (Nat → Nat)) {Kd : Nat → Nat} {h0 aw aa at0 ai af ap : Nat} (hk0 : Kd h0 = 1) (hkw : Kd aw = 2) (hka : Kd aa = 3) (hkt : Kd at0 = 4) (hki : Kd ai = 5) (hkf : Kd af = 6) (hkp : Kd ap = 7) {pl0 : va_W} (hok : tt_ok rt_tk cA Kd pl0) (hm : rl_m pl0 h0 aw aa at0 ai af ap) : jj_M l D cA ak yX11_next (.code yX11_next cX11_next 1 none) 1 25 0 0 ([] ++ pl0) [.ref h0] (tt_O (fun rx pl1 r => rx = [] ∧ tt_ok rt_tk cA Kd pl1 ∧ tt_fr Kd [(1, 14), (1, 15)] pl0 pl1 ∧ tt_fa Kd [] pl0 pl1 ∧ ((r = none)))) (tt_OX (fun _ _ _ => False)) := by
  refine jj_start hl (by decide) jw_8631b7212c (jj_le rfl) ?_
  intro p e s m args below meth c A hargs hA C hex hmn
  have hfr := tt_fr.refl (K := Kd) (WS := [(1, 14), (1, 15)]) pl0
  have hfa := tt_fa.refl (K := Kd) (WA := []) pl0
  refine jj_aload_n C dX11_next_0 rfl ?_
  refine jj_aload_n C dX11_next_1 rfl ?_
  refine tt_get C hok jk_12 15 (by decide) jw_165232ba7c (t := (0, 0, 400)) hk0 (by decide) rfl rfl dX11_next_2 (fun v_1 hv_1 hf_2 => ?_)
  obtain ⟨x_3, rfl, lx_3, ux_3⟩ := tt_vi hv_1
  refine rl_put C hok jk_12 14 (by decide) jw_6446e1fd81 (t := (0, 0, 400)) hk0 (by decide) rfl rfl rfl (tt_iv (by omega) (by omega)) rfl rfl dX11_next_5 (fun pl_4 hok_5 tr hn tl => ?_)
  replace hf_2 := tr _ _ _ (Or.inr (by decide)) hf_2
  have hf_6 := hn
  replace hm := hm.put tr (by decide)
  replace hfr := hfr.put hk0 tr (by decide)
  replace hfa := hfa.all tl
  have hL_7 : ∀ (N : Nat) (pl : va_W) (x_8 : Int32), True → tt_ok rt_tk cA Kd pl → tt_fr Kd [(1, 14), (1, 15)] pl0 pl → tt_fa Kd [] pl0 pl → rl_m pl h0 aw aa at0 ai af ap → tt_at pl h0 14 (.int x_8) → (0 : Int) ≤ x_8.toInt → x_8.toInt ≤ 400 → (401 - x_8.toInt ≤ (N : Int)) → jj_J p l e (jj_rm 1 25 0 0) s m args below meth c 1 A (vx_MQ below (jj_q D A (tt_O (fun rx pl1 r => rx = [] ∧ tt_ok rt_tk cA Kd pl1 ∧ tt_fr Kd [(1, 14), (1, 15)] pl0 pl1 ∧ tt_fa Kd [] pl0 pl1 ∧ ((r = none))))) (jj_x D A (tt_OX (fun _ _ _ => False))) args s 0 0 A) (jj_X D A ([] ++ pl)) 0 0 8 [(0, .ref h0)] [] := by
    intro NL_7
    induction NL_7 with
    | zero => intro pl x_8 _ hok hfr hfa hm hf_9 lx_8 ux_8 hNL_7; exfalso; omega
    | succ NL_7 ihL_7 =>
      intro pl x_8 _ hok hfr hfa hm hf_9 lx_8 ux_8 hNL_7
      replace ihL_7 := fun pl x_8 h1 => ihL_7 pl x_8 trivial h1
      refine jj_aload_n C dX11_next_8 rfl ?_
      refine jj_aload_n C dX11_next_9 rfl ?_
      refine tt_getF C hok jk_12 14 (by decide) jw_6446e1fd81 (t := (0, 0, 400)) hk0 (by decide) rfl rfl hf_9 dX11_next_10 ?_
      obtain ⟨qc, gs, hqc⟩ := tt_recv (cx := []) hok hk0 (by decide) rfl
      refine tt_callV (rest := []) C (rc_X11_byteAt_4afdc3 hl D cA ak x_8 hk0 hkw hka hkt hki hkf hkp (by omega) (by omega) hok hm) [] [] rfl rfl (by decide) (by decide) (by decide) qc hqc rfl rfl jw_98db775389 jw_8e26deba02 jw_8ef34ac32e jw_f96c99f44d jw_4737f96f0a jn_X11_byteAt rfl (jj_le rfl) (jj_le rfl) (jj_le rfl) (jj_le rfl) (jj_le rfl) dX11_next_13 rfl (fun _ _ _ hX => hX.elim) (fun rx pl_10 r O_14 => ?_)
      obtain ⟨rfl, hok_11, hr_12, ha_13, hR_15⟩ := O_14
      replace hf_9 := hr_12.at hk0 (by decide) (by decide) hf_9
      replace hm := hm.fr hr_12 hk0 rfl
      replace hfr := hfr.trans (hr_12.sub (by decide))
      replace hfa := hfa.trans (ha_13.sub (by decide))
      rcases hR_15 with rfl | ⟨x_16, lx_16, ux_16, l_17, u_18, rfl⟩
      · refine jj_bipush (v := 32) C dX11_next_16 (by decide) ?_
        refine jj_icmp_eqF (tgt := 34) C dX11_next_18 (by decide) (by decide) ?_
        refine jj_aload_n C dX11_next_21 rfl ?_
        refine jj_aload_n C dX11_next_22 rfl ?_
        refine tt_getF C hok_11 jk_12 14 (by decide) jw_6446e1fd81 (t := (0, 0, 400)) hk0 (by decide) rfl rfl hf_9 dX11_next_23 ?_
        obtain ⟨qc, gs, hqc⟩ := tt_recv (cx := []) hok_11 hk0 (by decide) rfl
        refine tt_callV (rest := []) C (rc_X11_byteAt_4afdc3 hl D cA ak x_8 hk0 hkw hka hkt hki hkf hkp (by omega) (by omega) hok_11 hm) [] [] rfl rfl (by decide) (by decide) (by decide) qc hqc rfl rfl jw_98db775389 jw_8e26deba02 jw_8ef34ac32e jw_f96c99f44d jw_4737f96f0a jn_X11_byteAt rfl (jj_le rfl) (jj_le rfl) (jj_le rfl) (jj_le rfl) (jj_le rfl) dX11_next_26 rfl (fun _ _ _ hX => hX.elim) (fun rx pl_19 r O_23 => ?_)
        obtain ⟨rfl, hok_20, hr_21, ha_22, hR_24⟩ := O_23
        replace hf_9 := hr_21.at hk0 (by decide) (by decide) hf_9
        replace hm := hm.fr hr_21 hk0 rfl
        replace hfr := hfr.trans (hr_21.sub (by decide))
        replace hfa := hfa.trans (ha_22.sub (by decide))
        rcases hR_24 with rfl | ⟨x_25, lx_25, ux_25, l_26, u_27, rfl⟩
        · refine jj_bipush (v := 10) C dX11_next_29 (by decide) ?_
          refine jj_icmp_neT (tgt := 47) C dX11_next_31 (by decide) (by decide) ?_
          refine jj_aload_n C dX11_next_47 rfl ?_
          refine jj_aload_n C dX11_next_48 rfl ?_
          refine tt_getF C hok_20 jk_12 14 (by decide) jw_6446e1fd81 (t := (0, 0, 400)) hk0 (by decide) rfl rfl hf_9 dX11_next_49 ?_
          refine rl_put C hok_20 jk_12 15 (by decide) jw_165232ba7c (t := (0, 0, 400)) hk0 (by decide) rfl rfl rfl (tt_iv (by omega) (by omega)) rfl rfl dX11_next_52 (fun pl_28 hok_29 tr hn tl => ?_)
          replace hf_9 := tr _ _ _ (Or.inr (by decide)) hf_9
          have hf_30 := hn
          replace hm := hm.put tr (by decide)
          replace hfr := hfr.put hk0 tr (by decide)
          replace hfa := hfa.all tl
          refine jj_aload_n C dX11_next_55 rfl ?_
          refine jj_aload_n C dX11_next_56 rfl ?_
          refine tt_getF C hok_29 jk_12 15 (by decide) jw_165232ba7c (t := (0, 0, 400)) hk0 (by decide) rfl rfl hf_30 dX11_next_57 ?_
          obtain ⟨qc, gs, hqc⟩ := tt_recv (cx := []) hok_29 hk0 (by decide) rfl
          refine tt_callV (rest := []) C (rc_X11_byteAt_4afdc3 hl D cA ak x_8 hk0 hkw hka hkt hki hkf hkp (by omega) (by omega) hok_29 hm) [] [] rfl rfl (by decide) (by decide) (by decide) qc hqc rfl rfl jw_98db775389 jw_8e26deba02 jw_8ef34ac32e jw_f96c99f44d jw_4737f96f0a jn_X11_byteAt rfl (jj_le rfl) (jj_le rfl) (jj_le rfl) (jj_le rfl) (jj_le rfl) dX11_next_60 rfl (fun _ _ _ hX => hX.elim) (fun rx pl_31 r O_35 => ?_)
          obtain ⟨rfl, hok_32, hr_33, ha_34, hR_36⟩ := O_35
          replace hf_9 := hr_33.at hk0 (by decide) (by decide) hf_9
          replace hf_30 := hr_33.at hk0 (by decide) (by decide) hf_30
          replace hm := hm.fr hr_33 hk0 rfl
          replace hfr := hfr.trans (hr_33.sub (by decide))
          replace hfa := hfa.trans (ha_34.sub (by decide))
          rcases hR_36 with rfl | ⟨x_37, lx_37, ux_37, l_38, u_39, rfl⟩
          · refine jj_i2l (v := (-1)) C dX11_next_63 (by decide) ?_
            refine jj_ldc2 (v := 97) C dX11_next_64 jw_39d46451b9 ?_
            refine jj_ldc2 (v := 122) C dX11_next_67 jw_33d5fc8685 ?_
            refine tt_call0S (rest := []) C (ct_X11_in_2 hl D cA ak) jw_2a24feddee jw_12f28ccfda jw_f96c99f44d jw_e07c9ada56 jn_X11_in rfl (jj_le rfl) (jj_le rfl) (jj_le rfl) (jj_le rfl) (jj_le rfl) dX11_next_70 rfl (fun w1 r O_40 => ?_)
            obtain ⟨-, rfl⟩ := O_40
            refine jj_if_eqT (tgt := 110) C dX11_next_73 (by decide) (by decide) ?_
            refine jj_aload_n C dX11_next_110 rfl ?_
            refine jj_aload_n C dX11_next_111 rfl ?_
            refine tt_getF C hok_32 jk_12 15 (by decide) jw_165232ba7c (t := (0, 0, 400)) hk0 (by decide) rfl rfl hf_30 dX11_next_112 ?_
            obtain ⟨qc, gs, hqc⟩ := tt_recv (cx := []) hok_32 hk0 (by decide) rfl
            refine tt_callV (rest := []) C (rc_X11_byteAt_4afdc3 hl D cA ak x_8 hk0 hkw hka hkt hki hkf hkp (by omega) (by omega) hok_32 hm) [] [] rfl rfl (by decide) (by decide) (by decide) qc hqc rfl rfl jw_98db775389 jw_8e26deba02 jw_8ef34ac32e jw_f96c99f44d jw_4737f96f0a jn_X11_byteAt rfl (jj_le rfl) (jj_le rfl) (jj_le rfl) (jj_le rfl) (jj_le rfl) dX11_next_115 rfl (fun _ _ _ hX => hX.elim) (fun rx pl_41 r O_45 => ?_)
            obtain ⟨rfl, hok_42, hr_43, ha_44, hR_46⟩ := O_45
            replace hf_9 := hr_43.at hk0 (by decide) (by decide) hf_9
            replace hf_30 := hr_43.at hk0 (by decide) (by decide) hf_30
            replace hm := hm.fr hr_43 hk0 rfl
            replace hfr := hfr.trans (hr_43.sub (by decide))
            replace hfa := hfa.trans (ha_44.sub (by decide))
            rcases hR_46 with rfl | ⟨x_47, lx_47, ux_47, l_48, u_49, rfl⟩
            · refine jj_i2l (v := (-1)) C dX11_next_118 (by decide) ?_
              refine jj_ldc2 (v := 48) C dX11_next_119 jw_d6cfdd4319 ?_
              refine jj_ldc2 (v := 57) C dX11_next_122 jw_8c7ed3b7a5 ?_
              refine tt_call0S (rest := []) C (ct_X11_in_3 hl D cA ak) jw_2a24feddee jw_12f28ccfda jw_f96c99f44d jw_e07c9ada56 jn_X11_in rfl (jj_le rfl) (jj_le rfl) (jj_le rfl) (jj_le rfl) (jj_le rfl) dX11_next_125 rfl (fun w1 r O_50 => ?_)
              obtain ⟨-, rfl⟩ := O_50
              refine jj_if_eqT (tgt := 165) C dX11_next_128 (by decide) (by decide) ?_
              refine jj_aload_n C dX11_next_165 rfl ?_
              refine tt_getF C hok_42 jk_12 15 (by decide) jw_165232ba7c (t := (0, 0, 400)) hk0 (by decide) rfl rfl hf_30 dX11_next_166 ?_
              refine jj_aload_n C dX11_next_169 rfl ?_
              refine tt_get C hok_42 jk_12 16 (by decide) jw_28b46cb90c (t := (0, 0, 400)) hk0 (by decide) rfl rfl dX11_next_170 (fun v_51 hv_51 hf_52 => ?_)
              obtain ⟨x_53, rfl, lx_53, ux_53⟩ := tt_vi hv_51
              refine jj_icmp_ge (tgt := 186) C dX11_next_173 (by decide) (fun c_54 => ?_) (fun c_54 => ?_)
              · have z_c_54 := jc_le (a := x_53.toInt) (b := x_8.toInt) c_54 rfl rfl
                exact jj_vret C ⟨[], pl_41, rfl, rfl, hok_42, hfr, hfa, rfl⟩ dX11_next_186 (jj_le rfl) (jj_le rfl)
              · have z_c_54 := jc_nle (a := x_53.toInt) (b := x_8.toInt) c_54 rfl rfl
                refine jj_aload_n C dX11_next_176 rfl ?_
                refine jj_dup C dX11_next_177 rfl ?_
                refine tt_getF C hok_42 jk_12 15 (by decide) jw_165232ba7c (t := (0, 0, 400)) hk0 (by decide) rfl rfl hf_30 dX11_next_178 ?_
                refine jj_iconst (v := 1) C dX11_next_181 (by decide) ?_
                obtain ⟨x_55, ex_55, vx_55⟩ := tt_iadd (x := x_8) (y := (1 : Int32)) (a := x_8.toInt) rfl (b := 1) (by decide) (by omega) (by omega)
                refine jj_iadd (v := x_55) C dX11_next_182 ex_55 ?_
                refine rl_put C hok_42 jk_12 15 (by decide) jw_165232ba7c (t := (0, 0, 400)) hk0 (by decide) rfl rfl rfl (tt_iv (by omega) (by omega)) rfl rfl dX11_next_183 (fun pl_56 hok_57 tr hn tl => ?_)
                replace hf_9 := tr _ _ _ (Or.inr (by decide)) hf_9
                replace hf_52 := tr _ _ _ (Or.inr (by decide)) hf_52
                have hf_58 := hn
                replace hm := hm.put tr (by decide)
                replace hfr := hfr.put hk0 tr (by decide)
                replace hfa := hfa.all tl
                exact jj_vret C ⟨[], pl_56, rfl, rfl, hok_57, hfr, hfa, rfl⟩ dX11_next_186 (jj_le rfl) (jj_le rfl)
            · obtain ⟨y_59, ey_59, vy_59⟩ := tt_i2l x_47
              refine jj_i2l (v := y_59) C dX11_next_118 ey_59 ?_
              refine jj_ldc2 (v := 48) C dX11_next_119 jw_d6cfdd4319 ?_
              refine jj_ldc2 (v := 57) C dX11_next_122 jw_8c7ed3b7a5 ?_
              refine tt_call0S (rest := []) C (ct_X11_in_4 hl D cA ak y_59) jw_2a24feddee jw_12f28ccfda jw_f96c99f44d jw_e07c9ada56 jn_X11_in rfl (jj_le rfl) (jj_le rfl) (jj_le rfl) (jj_le rfl) (jj_le rfl) dX11_next_125 rfl (fun w1 r O_60 => ?_)
              rcases O_60 with ⟨c_61, -, rfl⟩ | ⟨c_62, c_63, -, rfl⟩ | ⟨c_64, c_65, -, rfl⟩
              · have z_c_61 := jc_ltL (a := y_59.toInt) (b := 48) c_61 rfl (by decide)
                refine jj_if_eqT (tgt := 165) C dX11_next_128 (by decide) (by decide) ?_
                refine jj_aload_n C dX11_next_165 rfl ?_
                refine tt_getF C hok_42 jk_12 15 (by decide) jw_165232ba7c (t := (0, 0, 400)) hk0 (by decide) rfl rfl hf_30 dX11_next_166 ?_
                refine jj_aload_n C dX11_next_169 rfl ?_
                refine tt_get C hok_42 jk_12 16 (by decide) jw_28b46cb90c (t := (0, 0, 400)) hk0 (by decide) rfl rfl dX11_next_170 (fun v_66 hv_66 hf_67 => ?_)
                obtain ⟨x_68, rfl, lx_68, ux_68⟩ := tt_vi hv_66
                refine jj_icmp_ge (tgt := 186) C dX11_next_173 (by decide) (fun c_69 => ?_) (fun c_69 => ?_)
                · have z_c_69 := jc_le (a := x_68.toInt) (b := x_8.toInt) c_69 rfl rfl
                  exact jj_vret C ⟨[], pl_41, rfl, rfl, hok_42, hfr, hfa, rfl⟩ dX11_next_186 (jj_le rfl) (jj_le rfl)
                · have z_c_69 := jc_nle (a := x_68.toInt) (b := x_8.toInt) c_69 rfl rfl
                  refine jj_aload_n C dX11_next_176 rfl ?_
                  refine jj_dup C dX11_next_177 rfl ?_
                  refine tt_getF C hok_42 jk_12 15 (by decide) jw_165232ba7c (t := (0, 0, 400)) hk0 (by decide) rfl rfl hf_30 dX11_next_178 ?_
                  refine jj_iconst (v := 1) C dX11_next_181 (by decide) ?_
                  obtain ⟨x_70, ex_70, vx_70⟩ := tt_iadd (x := x_8) (y := (1 : Int32)) (a := x_8.toInt) rfl (b := 1) (by decide) (by omega) (by omega)
                  refine jj_iadd (v := x_70) C dX11_next_182 ex_70 ?_
                  refine rl_put C hok_42 jk_12 15 (by decide) jw_165232ba7c (t := (0, 0, 400)) hk0 (by decide) rfl rfl rfl (tt_iv (by omega) (by omega)) rfl rfl dX11_next_183 (fun pl_71 hok_72 tr hn tl => ?_)
                  replace hf_9 := tr _ _ _ (Or.inr (by decide)) hf_9
                  replace hf_67 := tr _ _ _ (Or.inr (by decide)) hf_67
                  have hf_73 := hn
                  replace hm := hm.put tr (by decide)
                  replace hfr := hfr.put hk0 tr (by decide)
                  replace hfa := hfa.all tl
                  exact jj_vret C ⟨[], pl_71, rfl, rfl, hok_72, hfr, hfa, rfl⟩ dX11_next_186 (jj_le rfl) (jj_le rfl)
              · have z_c_62 := jc_nltL (a := y_59.toInt) (b := 48) c_62 rfl (by decide)
                have z_c_63 := jc_ltL (a := 57) (b := y_59.toInt) c_63 (by decide) rfl
                refine jj_if_eqT (tgt := 165) C dX11_next_128 (by decide) (by decide) ?_
                refine jj_aload_n C dX11_next_165 rfl ?_
                refine tt_getF C hok_42 jk_12 15 (by decide) jw_165232ba7c (t := (0, 0, 400)) hk0 (by decide) rfl rfl hf_30 dX11_next_166 ?_
                refine jj_aload_n C dX11_next_169 rfl ?_
                refine tt_get C hok_42 jk_12 16 (by decide) jw_28b46cb90c (t := (0, 0, 400)) hk0 (by decide) rfl rfl dX11_next_170 (fun v_74 hv_74 hf_75 => ?_)
                obtain ⟨x_76, rfl, lx_76, ux_76⟩ := tt_vi hv_74
                refine jj_icmp_ge (tgt := 186) C dX11_next_173 (by decide) (fun c_77 => ?_) (fun c_77 => ?_)
                · have z_c_77 := jc_le (a := x_76.toInt) (b := x_8.toInt) c_77 rfl rfl
                  exact jj_vret C ⟨[], pl_41, rfl, rfl, hok_42, hfr, hfa, rfl⟩ dX11_next_186 (jj_le rfl) (jj_le rfl)
                · have z_c_77 := jc_nle (a := x_76.toInt) (b := x_8.toInt) c_77 rfl rfl
                  refine jj_aload_n C dX11_next_176 rfl ?_
                  refine jj_dup C dX11_next_177 rfl ?_
                  refine tt_getF C hok_42 jk_12 15 (by decide) jw_165232ba7c (t := (0, 0, 400)) hk0 (by decide) rfl rfl hf_30 dX11_next_178 ?_
                  refine jj_iconst (v := 1) C dX11_next_181 (by decide) ?_
                  obtain ⟨x_78, ex_78, vx_78⟩ := tt_iadd (x := x_8) (y := (1 : Int32)) (a := x_8.toInt) rfl (b := 1) (by decide) (by omega) (by omega)
                  refine jj_iadd (v := x_78) C dX11_next_182 ex_78 ?_
                  refine rl_put C hok_42 jk_12 15 (by decide) jw_165232ba7c (t := (0, 0, 400)) hk0 (by decide) rfl rfl rfl (tt_iv (by omega) (by omega)) rfl rfl dX11_next_183 (fun pl_79 hok_80 tr hn tl => ?_)
                  replace hf_9 := tr _ _ _ (Or.inr (by decide)) hf_9
                  replace hf_75 := tr _ _ _ (Or.inr (by decide)) hf_75
                  have hf_81 := hn
                  replace hm := hm.put tr (by decide)
                  replace hfr := hfr.put hk0 tr (by decide)
                  replace hfa := hfa.all tl
                  exact jj_vret C ⟨[], pl_79, rfl, rfl, hok_80, hfr, hfa, rfl⟩ dX11_next_186 (jj_le rfl) (jj_le rfl)
              · have z_c_64 := jc_nltL (a := y_59.toInt) (b := 48) c_64 rfl (by decide)
                have z_c_65 := jc_nltL (a := 57) (b := y_59.toInt) c_65 (by decide) rfl
                refine jj_if_eqF (tgt := 165) C dX11_next_128 (by decide) (by decide) ?_
                have hL_82 : ∀ (N : Nat) (pl : va_W) (x_83 : Int32), True → tt_ok rt_tk cA Kd pl → tt_fr Kd [(1, 14), (1, 15)] pl0 pl → tt_fa Kd [] pl0 pl → rl_m pl h0 aw aa at0 ai af ap → tt_at pl h0 15 (.int x_83) → (0 : Int) ≤ x_83.toInt → x_83.toInt ≤ 400 → (401 - x_83.toInt ≤ (N : Int)) → jj_J p l e (jj_rm 1 25 0 0) s m args below meth c 1 A (vx_MQ below (jj_q D A (tt_O (fun rx pl1 r => rx = [] ∧ tt_ok rt_tk cA Kd pl1 ∧ tt_fr Kd [(1, 14), (1, 15)] pl0 pl1 ∧ tt_fa Kd [] pl0 pl1 ∧ ((r = none))))) (jj_x D A (tt_OX (fun _ _ _ => False))) args s 0 0 A) (jj_X D A ([] ++ pl)) 0 0 131 [(0, .ref h0)] [] := by
                  intro NL_82
                  induction NL_82 with
                  | zero => intro pl x_83 _ hok hfr hfa hm hf_84 lx_83 ux_83 hNL_82; exfalso; omega
                  | succ NL_82 ihL_82 =>
                    intro pl x_83 _ hok hfr hfa hm hf_84 lx_83 ux_83 hNL_82
                    replace ihL_82 := fun pl x_83 h1 => ihL_82 pl x_83 trivial h1
                    refine jj_aload_n C dX11_next_131 rfl ?_
                    refine jj_aload_n C dX11_next_132 rfl ?_
                    refine tt_getF C hok jk_12 15 (by decide) jw_165232ba7c (t := (0, 0, 400)) hk0 (by decide) rfl rfl hf_84 dX11_next_133 ?_
                    obtain ⟨qc, gs, hqc⟩ := tt_recv (cx := []) hok hk0 (by decide) rfl
                    refine tt_callV (rest := []) C (rc_X11_byteAt_4afdc3 hl D cA ak x_83 hk0 hkw hka hkt hki hkf hkp (by omega) (by omega) hok hm) [] [] rfl rfl (by decide) (by decide) (by decide) qc hqc rfl rfl jw_98db775389 jw_8e26deba02 jw_8ef34ac32e jw_f96c99f44d jw_4737f96f0a jn_X11_byteAt rfl (jj_le rfl) (jj_le rfl) (jj_le rfl) (jj_le rfl) (jj_le rfl) dX11_next_136 rfl (fun _ _ _ hX => hX.elim) (fun rx pl_85 r O_89 => ?_)
                    obtain ⟨rfl, hok_86, hr_87, ha_88, hR_90⟩ := O_89
                    replace hf_84 := hr_87.at hk0 (by decide) (by decide) hf_84
                    replace hm := hm.fr hr_87 hk0 rfl
                    replace hfr := hfr.trans (hr_87.sub (by decide))
                    replace hfa := hfa.trans (ha_88.sub (by decide))
                    rcases hR_90 with rfl | ⟨x_91, lx_91, ux_91, l_92, u_93, rfl⟩
                    · refine jj_i2l (v := (-1)) C dX11_next_139 (by decide) ?_
                      refine jj_ldc2 (v := 48) C dX11_next_140 jw_d6cfdd4319 ?_
                      refine jj_ldc2 (v := 57) C dX11_next_143 jw_8c7ed3b7a5 ?_
                      refine tt_call0S (rest := []) C (ct_X11_in_3 hl D cA ak) jw_2a24feddee jw_12f28ccfda jw_f96c99f44d jw_e07c9ada56 jn_X11_in rfl (jj_le rfl) (jj_le rfl) (jj_le rfl) (jj_le rfl) (jj_le rfl) dX11_next_146 rfl (fun w1 r O_94 => ?_)
                      obtain ⟨-, rfl⟩ := O_94
                      refine jj_if_eqT (tgt := 186) C dX11_next_149 (by decide) (by decide) ?_
                      exact jj_vret C ⟨[], pl_85, rfl, rfl, hok_86, hfr, hfa, rfl⟩ dX11_next_186 (jj_le rfl) (jj_le rfl)
                    · obtain ⟨y_95, ey_95, vy_95⟩ := tt_i2l x_91
                      refine jj_i2l (v := y_95) C dX11_next_139 ey_95 ?_
                      refine jj_ldc2 (v := 48) C dX11_next_140 jw_d6cfdd4319 ?_
                      refine jj_ldc2 (v := 57) C dX11_next_143 jw_8c7ed3b7a5 ?_
                      refine tt_call0S (rest := []) C (ct_X11_in_4 hl D cA ak y_95) jw_2a24feddee jw_12f28ccfda jw_f96c99f44d jw_e07c9ada56 jn_X11_in rfl (jj_le rfl) (jj_le rfl) (jj_le rfl) (jj_le rfl) (jj_le rfl) dX11_next_146 rfl (fun w1 r O_96 => ?_)
                      rcases O_96 with ⟨c_97, -, rfl⟩ | ⟨c_98, c_99, -, rfl⟩ | ⟨c_100, c_101, -, rfl⟩
                      · have z_c_97 := jc_ltL (a := y_95.toInt) (b := 48) c_97 rfl (by decide)
                        refine jj_if_eqT (tgt := 186) C dX11_next_149 (by decide) (by decide) ?_
                        exact jj_vret C ⟨[], pl_85, rfl, rfl, hok_86, hfr, hfa, rfl⟩ dX11_next_186 (jj_le rfl) (jj_le rfl)
                      · have z_c_98 := jc_nltL (a := y_95.toInt) (b := 48) c_98 rfl (by decide)
                        have z_c_99 := jc_ltL (a := 57) (b := y_95.toInt) c_99 (by decide) rfl
                        refine jj_if_eqT (tgt := 186) C dX11_next_149 (by decide) (by decide) ?_
                        exact jj_vret C ⟨[], pl_85, rfl, rfl, hok_86, hfr, hfa, rfl⟩ dX11_next_186 (jj_le rfl) (jj_le rfl)
                      · have z_c_100 := jc_nltL (a := y_95.toInt) (b := 48) c_100 rfl (by decide)
                        have z_c_101 := jc_nltL (a := 57) (b := y_95.toInt) c_101 (by decide) rfl
                        refine jj_if_eqF (tgt := 186) C dX11_next_149 (by decide) (by decide) ?_
                        refine jj_aload_n C dX11_next_152 rfl ?_
                        refine jj_dup C dX11_next_153 rfl ?_
                        refine tt_getF C hok_86 jk_12 15 (by decide) jw_165232ba7c (t := (0, 0, 400)) hk0 (by decide) rfl rfl hf_84 dX11_next_154 ?_
                        refine jj_iconst (v := 1) C dX11_next_157 (by decide) ?_
                        obtain ⟨x_102, ex_102, vx_102⟩ := tt_iadd (x := x_83) (y := (1 : Int32)) (a := x_83.toInt) rfl (b := 1) (by decide) (by omega) (by omega)
                        refine jj_iadd (v := x_102) C dX11_next_158 ex_102 ?_
                        refine rl_put C hok_86 jk_12 15 (by decide) jw_165232ba7c (t := (0, 0, 400)) hk0 (by decide) rfl rfl rfl (tt_iv (by omega) (by omega)) rfl rfl dX11_next_159 (fun pl_103 hok_104 tr hn tl => ?_)
                        have hf_105 := hn
                        replace hm := hm.put tr (by decide)
                        replace hfr := hfr.put hk0 tr (by decide)
                        replace hfa := hfa.all tl
                        refine jj_goto (tgt := 131) C dX11_next_162 (by decide) ?_
                        exact ihL_82 pl_103 x_102 hok_104 hfr hfa hm hf_105 (by first | omega | decide | exact tt_lo _ | exact tt_hi _) (by first | omega | decide | exact tt_lo _ | exact tt_hi _) (by first | omega | decide | exact tt_lo _ | exact tt_hi _)
                exact hL_82 _ pl_41 x_8 trivial hok_42 hfr hfa hm hf_30 (by first | omega | decide | exact tt_lo _ | exact tt_hi _) (by first | omega | decide | exact tt_lo _ | exact tt_hi _) (Int.self_le_toNat _)
          · obtain ⟨y_106, ey_106, vy_106⟩ := tt_i2l x_37
            refine jj_i2l (v := y_106) C dX11_next_63 ey_106 ?_
            refine jj_ldc2 (v := 97) C dX11_next_64 jw_39d46451b9 ?_
            refine jj_ldc2 (v := 122) C dX11_next_67 jw_33d5fc8685 ?_
            refine tt_call0S (rest := []) C (ct_X11_in_5 hl D cA ak y_106) jw_2a24feddee jw_12f28ccfda jw_f96c99f44d jw_e07c9ada56 jn_X11_in rfl (jj_le rfl) (jj_le rfl) (jj_le rfl) (jj_le rfl) (jj_le rfl) dX11_next_70 rfl (fun w1 r O_107 => ?_)
            rcases O_107 with ⟨c_108, -, rfl⟩ | ⟨c_109, c_110, -, rfl⟩ | ⟨c_111, c_112, -, rfl⟩
            · have z_c_108 := jc_ltL (a := y_106.toInt) (b := 97) c_108 rfl (by decide)
              refine jj_if_eqT (tgt := 110) C dX11_next_73 (by decide) (by decide) ?_
              refine jj_aload_n C dX11_next_110 rfl ?_
              refine jj_aload_n C dX11_next_111 rfl ?_
              refine tt_getF C hok_32 jk_12 15 (by decide) jw_165232ba7c (t := (0, 0, 400)) hk0 (by decide) rfl rfl hf_30 dX11_next_112 ?_
              obtain ⟨qc, gs, hqc⟩ := tt_recv (cx := []) hok_32 hk0 (by decide) rfl
              refine tt_callV (rest := []) C (rc_X11_byteAt_f5f728 hl D cA ak x_8 hk0 hkw hka hkt hki hkf hkp (by omega) (by omega) hok_32 hm) [] [] rfl rfl (by decide) (by decide) (by decide) qc hqc rfl rfl jw_98db775389 jw_8e26deba02 jw_8ef34ac32e jw_f96c99f44d jw_4737f96f0a jn_X11_byteAt rfl (jj_le rfl) (jj_le rfl) (jj_le rfl) (jj_le rfl) (jj_le rfl) dX11_next_115 rfl (fun _ _ _ hX => hX.elim) (fun rx pl_113 r O_117 => ?_)
              obtain ⟨rfl, hok_114, hr_115, ha_116, hR_118⟩ := O_117
              replace hf_9 := hr_115.at hk0 (by decide) (by decide) hf_9
              replace hf_30 := hr_115.at hk0 (by decide) (by decide) hf_30
              replace hm := hm.fr hr_115 hk0 rfl
              replace hfr := hfr.trans (hr_115.sub (by decide))
              replace hfa := hfa.trans (ha_116.sub (by decide))
              rcases hR_118 with rfl | ⟨x_119, lx_119, ux_119, rfl⟩
              · refine jj_i2l (v := (-1)) C dX11_next_118 (by decide) ?_
                refine jj_ldc2 (v := 48) C dX11_next_119 jw_d6cfdd4319 ?_
                refine jj_ldc2 (v := 57) C dX11_next_122 jw_8c7ed3b7a5 ?_
                refine tt_call0S (rest := []) C (ct_X11_in_3 hl D cA ak) jw_2a24feddee jw_12f28ccfda jw_f96c99f44d jw_e07c9ada56 jn_X11_in rfl (jj_le rfl) (jj_le rfl) (jj_le rfl) (jj_le rfl) (jj_le rfl) dX11_next_125 rfl (fun w1 r O_120 => ?_)
                obtain ⟨-, rfl⟩ := O_120
                refine jj_if_eqT (tgt := 165) C dX11_next_128 (by decide) (by decide) ?_
                refine jj_aload_n C dX11_next_165 rfl ?_
                refine tt_getF C hok_114 jk_12 15 (by decide) jw_165232ba7c (t := (0, 0, 400)) hk0 (by decide) rfl rfl hf_30 dX11_next_166 ?_
                refine jj_aload_n C dX11_next_169 rfl ?_
                refine tt_get C hok_114 jk_12 16 (by decide) jw_28b46cb90c (t := (0, 0, 400)) hk0 (by decide) rfl rfl dX11_next_170 (fun v_121 hv_121 hf_122 => ?_)
                obtain ⟨x_123, rfl, lx_123, ux_123⟩ := tt_vi hv_121
                refine jj_icmp_ge (tgt := 186) C dX11_next_173 (by decide) (fun c_124 => ?_) (fun c_124 => ?_)
                · have z_c_124 := jc_le (a := x_123.toInt) (b := x_8.toInt) c_124 rfl rfl
                  exact jj_vret C ⟨[], pl_113, rfl, rfl, hok_114, hfr, hfa, rfl⟩ dX11_next_186 (jj_le rfl) (jj_le rfl)
                · have z_c_124 := jc_nle (a := x_123.toInt) (b := x_8.toInt) c_124 rfl rfl
                  refine jj_aload_n C dX11_next_176 rfl ?_
                  refine jj_dup C dX11_next_177 rfl ?_
                  refine tt_getF C hok_114 jk_12 15 (by decide) jw_165232ba7c (t := (0, 0, 400)) hk0 (by decide) rfl rfl hf_30 dX11_next_178 ?_
                  refine jj_iconst (v := 1) C dX11_next_181 (by decide) ?_
                  obtain ⟨x_125, ex_125, vx_125⟩ := tt_iadd (x := x_8) (y := (1 : Int32)) (a := x_8.toInt) rfl (b := 1) (by decide) (by omega) (by omega)
                  refine jj_iadd (v := x_125) C dX11_next_182 ex_125 ?_
                  refine rl_put C hok_114 jk_12 15 (by decide) jw_165232ba7c (t := (0, 0, 400)) hk0 (by decide) rfl rfl rfl (tt_iv (by omega) (by omega)) rfl rfl dX11_next_183 (fun pl_126 hok_127 tr hn tl => ?_)
                  replace hf_9 := tr _ _ _ (Or.inr (by decide)) hf_9
                  replace hf_122 := tr _ _ _ (Or.inr (by decide)) hf_122
                  have hf_128 := hn
                  replace hm := hm.put tr (by decide)
                  replace hfr := hfr.put hk0 tr (by decide)
                  replace hfa := hfa.all tl
                  exact jj_vret C ⟨[], pl_126, rfl, rfl, hok_127, hfr, hfa, rfl⟩ dX11_next_186 (jj_le rfl) (jj_le rfl)
              · obtain ⟨y_129, ey_129, vy_129⟩ := tt_i2l x_119
                refine jj_i2l (v := y_129) C dX11_next_118 ey_129 ?_
                refine jj_ldc2 (v := 48) C dX11_next_119 jw_d6cfdd4319 ?_
                refine jj_ldc2 (v := 57) C dX11_next_122 jw_8c7ed3b7a5 ?_
                refine tt_call0S (rest := []) C (ct_X11_in_4 hl D cA ak y_129) jw_2a24feddee jw_12f28ccfda jw_f96c99f44d jw_e07c9ada56 jn_X11_in rfl (jj_le rfl) (jj_le rfl) (jj_le rfl) (jj_le rfl) (jj_le rfl) dX11_next_125 rfl (fun w1 r O_130 => ?_)
                rcases O_130 with ⟨c_131, -, rfl⟩ | ⟨c_132, c_133, -, rfl⟩ | ⟨c_134, c_135, -, rfl⟩
                · have z_c_131 := jc_ltL (a := y_129.toInt) (b := 48) c_131 rfl (by decide)
                  refine jj_if_eqT (tgt := 165) C dX11_next_128 (by decide) (by decide) ?_
                  refine jj_aload_n C dX11_next_165 rfl ?_
                  refine tt_getF C hok_114 jk_12 15 (by decide) jw_165232ba7c (t := (0, 0, 400)) hk0 (by decide) rfl rfl hf_30 dX11_next_166 ?_
                  refine jj_aload_n C dX11_next_169 rfl ?_
                  refine tt_get C hok_114 jk_12 16 (by decide) jw_28b46cb90c (t := (0, 0, 400)) hk0 (by decide) rfl rfl dX11_next_170 (fun v_136 hv_136 hf_137 => ?_)
                  obtain ⟨x_138, rfl, lx_138, ux_138⟩ := tt_vi hv_136
                  refine jj_icmp_ge (tgt := 186) C dX11_next_173 (by decide) (fun c_139 => ?_) (fun c_139 => ?_)
                  · have z_c_139 := jc_le (a := x_138.toInt) (b := x_8.toInt) c_139 rfl rfl
                    exact jj_vret C ⟨[], pl_113, rfl, rfl, hok_114, hfr, hfa, rfl⟩ dX11_next_186 (jj_le rfl) (jj_le rfl)
                  · have z_c_139 := jc_nle (a := x_138.toInt) (b := x_8.toInt) c_139 rfl rfl
                    refine jj_aload_n C dX11_next_176 rfl ?_
                    refine jj_dup C dX11_next_177 rfl ?_
                    refine tt_getF C hok_114 jk_12 15 (by decide) jw_165232ba7c (t := (0, 0, 400)) hk0 (by decide) rfl rfl hf_30 dX11_next_178 ?_
                    refine jj_iconst (v := 1) C dX11_next_181 (by decide) ?_
                    obtain ⟨x_140, ex_140, vx_140⟩ := tt_iadd (x := x_8) (y := (1 : Int32)) (a := x_8.toInt) rfl (b := 1) (by decide) (by omega) (by omega)
                    refine jj_iadd (v := x_140) C dX11_next_182 ex_140 ?_
                    refine rl_put C hok_114 jk_12 15 (by decide) jw_165232ba7c (t := (0, 0, 400)) hk0 (by decide) rfl rfl rfl (tt_iv (by omega) (by omega)) rfl rfl dX11_next_183 (fun pl_141 hok_142 tr hn tl => ?_)
                    replace hf_9 := tr _ _ _ (Or.inr (by decide)) hf_9
                    replace hf_137 := tr _ _ _ (Or.inr (by decide)) hf_137
                    have hf_143 := hn
                    replace hm := hm.put tr (by decide)
                    replace hfr := hfr.put hk0 tr (by decide)
                    replace hfa := hfa.all tl
                    exact jj_vret C ⟨[], pl_141, rfl, rfl, hok_142, hfr, hfa, rfl⟩ dX11_next_186 (jj_le rfl) (jj_le rfl)
                · have z_c_132 := jc_nltL (a := y_129.toInt) (b := 48) c_132 rfl (by decide)
                  have z_c_133 := jc_ltL (a := 57) (b := y_129.toInt) c_133 (by decide) rfl
                  refine jj_if_eqT (tgt := 165) C dX11_next_128 (by decide) (by decide) ?_
                  refine jj_aload_n C dX11_next_165 rfl ?_
                  refine tt_getF C hok_114 jk_12 15 (by decide) jw_165232ba7c (t := (0, 0, 400)) hk0 (by decide) rfl rfl hf_30 dX11_next_166 ?_
                  refine jj_aload_n C dX11_next_169 rfl ?_
                  refine tt_get C hok_114 jk_12 16 (by decide) jw_28b46cb90c (t := (0, 0, 400)) hk0 (by decide) rfl rfl dX11_next_170 (fun v_144 hv_144 hf_145 => ?_)
                  obtain ⟨x_146, rfl, lx_146, ux_146⟩ := tt_vi hv_144
                  refine jj_icmp_ge (tgt := 186) C dX11_next_173 (by decide) (fun c_147 => ?_) (fun c_147 => ?_)
                  · have z_c_147 := jc_le (a := x_146.toInt) (b := x_8.toInt) c_147 rfl rfl
                    exact jj_vret C ⟨[], pl_113, rfl, rfl, hok_114, hfr, hfa, rfl⟩ dX11_next_186 (jj_le rfl) (jj_le rfl)
                  · have z_c_147 := jc_nle (a := x_146.toInt) (b := x_8.toInt) c_147 rfl rfl
                    refine jj_aload_n C dX11_next_176 rfl ?_
                    refine jj_dup C dX11_next_177 rfl ?_
                    refine tt_getF C hok_114 jk_12 15 (by decide) jw_165232ba7c (t := (0, 0, 400)) hk0 (by decide) rfl rfl hf_30 dX11_next_178 ?_
                    refine jj_iconst (v := 1) C dX11_next_181 (by decide) ?_
                    obtain ⟨x_148, ex_148, vx_148⟩ := tt_iadd (x := x_8) (y := (1 : Int32)) (a := x_8.toInt) rfl (b := 1) (by decide) (by omega) (by omega)
                    refine jj_iadd (v := x_148) C dX11_next_182 ex_148 ?_
                    refine rl_put C hok_114 jk_12 15 (by decide) jw_165232ba7c (t := (0, 0, 400)) hk0 (by decide) rfl rfl rfl (tt_iv (by omega) (by omega)) rfl rfl dX11_next_183 (fun pl_149 hok_150 tr hn tl => ?_)
                    replace hf_9 := tr _ _ _ (Or.inr (by decide)) hf_9
                    replace hf_145 := tr _ _ _ (Or.inr (by decide)) hf_145
                    have hf_151 := hn
                    replace hm := hm.put tr (by decide)
                    replace hfr := hfr.put hk0 tr (by decide)
                    replace hfa := hfa.all tl
                    exact jj_vret C ⟨[], pl_149, rfl, rfl, hok_150, hfr, hfa, rfl⟩ dX11_next_186 (jj_le rfl) (jj_le rfl)
                · have z_c_134 := jc_nltL (a := y_129.toInt) (b := 48) c_134 rfl (by decide)
                  have z_c_135 := jc_nltL (a := 57) (b := y_129.toInt) c_135 (by decide) rfl
                  refine jj_if_eqF (tgt := 165) C dX11_next_128 (by decide) (by decide) ?_
                  have hL_152 : ∀ (N : Nat) (pl : va_W) (x_153 : Int32), True → tt_ok rt_tk cA Kd pl → tt_fr Kd [(1, 14), (1, 15)] pl0 pl → tt_fa Kd [] pl0 pl → rl_m pl h0 aw aa at0 ai af ap → tt_at pl h0 15 (.int x_153) → (0 : Int) ≤ x_153.toInt → x_153.toInt ≤ 400 → (401 - x_153.toInt ≤ (N : Int)) → jj_J p l e (jj_rm 1 25 0 0) s m args below meth c 1 A (vx_MQ below (jj_q D A (tt_O (fun rx pl1 r => rx = [] ∧ tt_ok rt_tk cA Kd pl1 ∧ tt_fr Kd [(1, 14), (1, 15)] pl0 pl1 ∧ tt_fa Kd [] pl0 pl1 ∧ ((r = none))))) (jj_x D A (tt_OX (fun _ _ _ => False))) args s 0 0 A) (jj_X D A ([] ++ pl)) 0 0 131 [(0, .ref h0)] [] := by
                    intro NL_152
                    induction NL_152 with
                    | zero => intro pl x_153 _ hok hfr hfa hm hf_154 lx_153 ux_153 hNL_152; exfalso; omega
                    | succ NL_152 ihL_152 =>
                      intro pl x_153 _ hok hfr hfa hm hf_154 lx_153 ux_153 hNL_152
                      replace ihL_152 := fun pl x_153 h1 => ihL_152 pl x_153 trivial h1
                      refine jj_aload_n C dX11_next_131 rfl ?_
                      refine jj_aload_n C dX11_next_132 rfl ?_
                      refine tt_getF C hok jk_12 15 (by decide) jw_165232ba7c (t := (0, 0, 400)) hk0 (by decide) rfl rfl hf_154 dX11_next_133 ?_
                      obtain ⟨qc, gs, hqc⟩ := tt_recv (cx := []) hok hk0 (by decide) rfl
                      refine tt_callV (rest := []) C (rc_X11_byteAt_4afdc3 hl D cA ak x_153 hk0 hkw hka hkt hki hkf hkp (by omega) (by omega) hok hm) [] [] rfl rfl (by decide) (by decide) (by decide) qc hqc rfl rfl jw_98db775389 jw_8e26deba02 jw_8ef34ac32e jw_f96c99f44d jw_4737f96f0a jn_X11_byteAt rfl (jj_le rfl) (jj_le rfl) (jj_le rfl) (jj_le rfl) (jj_le rfl) dX11_next_136 rfl (fun _ _ _ hX => hX.elim) (fun rx pl_155 r O_159 => ?_)
                      obtain ⟨rfl, hok_156, hr_157, ha_158, hR_160⟩ := O_159
                      replace hf_154 := hr_157.at hk0 (by decide) (by decide) hf_154
                      replace hm := hm.fr hr_157 hk0 rfl
                      replace hfr := hfr.trans (hr_157.sub (by decide))
                      replace hfa := hfa.trans (ha_158.sub (by decide))
                      rcases hR_160 with rfl | ⟨x_161, lx_161, ux_161, l_162, u_163, rfl⟩
                      · refine jj_i2l (v := (-1)) C dX11_next_139 (by decide) ?_
                        refine jj_ldc2 (v := 48) C dX11_next_140 jw_d6cfdd4319 ?_
                        refine jj_ldc2 (v := 57) C dX11_next_143 jw_8c7ed3b7a5 ?_
                        refine tt_call0S (rest := []) C (ct_X11_in_3 hl D cA ak) jw_2a24feddee jw_12f28ccfda jw_f96c99f44d jw_e07c9ada56 jn_X11_in rfl (jj_le rfl) (jj_le rfl) (jj_le rfl) (jj_le rfl) (jj_le rfl) dX11_next_146 rfl (fun w1 r O_164 => ?_)
                        obtain ⟨-, rfl⟩ := O_164
                        refine jj_if_eqT (tgt := 186) C dX11_next_149 (by decide) (by decide) ?_
                        exact jj_vret C ⟨[], pl_155, rfl, rfl, hok_156, hfr, hfa, rfl⟩ dX11_next_186 (jj_le rfl) (jj_le rfl)
                      · obtain ⟨y_165, ey_165, vy_165⟩ := tt_i2l x_161
                        refine jj_i2l (v := y_165) C dX11_next_139 ey_165 ?_
                        refine jj_ldc2 (v := 48) C dX11_next_140 jw_d6cfdd4319 ?_
                        refine jj_ldc2 (v := 57) C dX11_next_143 jw_8c7ed3b7a5 ?_
                        refine tt_call0S (rest := []) C (ct_X11_in_4 hl D cA ak y_165) jw_2a24feddee jw_12f28ccfda jw_f96c99f44d jw_e07c9ada56 jn_X11_in rfl (jj_le rfl) (jj_le rfl) (jj_le rfl) (jj_le rfl) (jj_le rfl) dX11_next_146 rfl (fun w1 r O_166 => ?_)
                        rcases O_166 with ⟨c_167, -, rfl⟩ | ⟨c_168, c_169, -, rfl⟩ | ⟨c_170, c_171, -, rfl⟩
                        · have z_c_167 := jc_ltL (a := y_165.toInt) (b := 48) c_167 rfl (by decide)
                          refine jj_if_eqT (tgt := 186) C dX11_next_149 (by decide) (by decide) ?_
                          exact jj_vret C ⟨[], pl_155, rfl, rfl, hok_156, hfr, hfa, rfl⟩ dX11_next_186 (jj_le rfl) (jj_le rfl)
                        · have z_c_168 := jc_nltL (a := y_165.toInt) (b := 48) c_168 rfl (by decide)
                          have z_c_169 := jc_ltL (a := 57) (b := y_165.toInt) c_169 (by decide) rfl
                          refine jj_if_eqT (tgt := 186) C dX11_next_149 (by decide) (by decide) ?_
                          exact jj_vret C ⟨[], pl_155, rfl, rfl, hok_156, hfr, hfa, rfl⟩ dX11_next_186 (jj_le rfl) (jj_le rfl)
                        · have z_c_170 := jc_nltL (a := y_165.toInt) (b := 48) c_170 rfl (by decide)
                          have z_c_171 := jc_nltL (a := 57) (b := y_165.toInt) c_171 (by decide) rfl
                          refine jj_if_eqF (tgt := 186) C dX11_next_149 (by decide) (by decide) ?_
                          refine jj_aload_n C dX11_next_152 rfl ?_
                          refine jj_dup C dX11_next_153 rfl ?_
                          refine tt_getF C hok_156 jk_12 15 (by decide) jw_165232ba7c (t := (0, 0, 400)) hk0 (by decide) rfl rfl hf_154 dX11_next_154 ?_
                          refine jj_iconst (v := 1) C dX11_next_157 (by decide) ?_
                          obtain ⟨x_172, ex_172, vx_172⟩ := tt_iadd (x := x_153) (y := (1 : Int32)) (a := x_153.toInt) rfl (b := 1) (by decide) (by omega) (by omega)
                          refine jj_iadd (v := x_172) C dX11_next_158 ex_172 ?_
                          refine rl_put C hok_156 jk_12 15 (by decide) jw_165232ba7c (t := (0, 0, 400)) hk0 (by decide) rfl rfl rfl (tt_iv (by omega) (by omega)) rfl rfl dX11_next_159 (fun pl_173 hok_174 tr hn tl => ?_)
                          have hf_175 := hn
                          replace hm := hm.put tr (by decide)
                          replace hfr := hfr.put hk0 tr (by decide)
                          replace hfa := hfa.all tl
                          refine jj_goto (tgt := 131) C dX11_next_162 (by decide) ?_
                          exact ihL_152 pl_173 x_172 hok_174 hfr hfa hm hf_175 (by first | omega | decide | exact tt_lo _ | exact tt_hi _) (by first | omega | decide | exact tt_lo _ | exact tt_hi _) (by first | omega | decide | exact tt_lo _ | exact tt_hi _)
                  exact hL_152 _ pl_113 x_8 trivial hok_114 hfr hfa hm hf_30 (by first | omega | decide | exact tt_lo _ | exact tt_hi _) (by first | omega | decide | exact tt_lo _ | exact tt_hi _) (Int.self_le_toNat _)
            · have z_c_109 := jc_nltL (a := y_106.toInt) (b := 97) c_109 rfl (by decide)
              have z_c_110 := jc_ltL (a := 122) (b := y_106.toInt) c_110 (by decide) rfl
              refine jj_if_eqT (tgt := 110) C dX11_next_73 (by decide) (by decide) ?_
              refine jj_aload_n C dX11_next_110 rfl ?_
              refine jj_aload_n C dX11_next_111 rfl ?_
              refine tt_getF C hok_32 jk_12 15 (by decide) jw_165232ba7c (t := (0, 0, 400)) hk0 (by decide) rfl rfl hf_30 dX11_next_112 ?_
              obtain ⟨qc, gs, hqc⟩ := tt_recv (cx := []) hok_32 hk0 (by decide) rfl
              refine tt_callV (rest := []) C (rc_X11_byteAt_f5f728 hl D cA ak x_8 hk0 hkw hka hkt hki hkf hkp (by omega) (by omega) hok_32 hm) [] [] rfl rfl (by decide) (by decide) (by decide) qc hqc rfl rfl jw_98db775389 jw_8e26deba02 jw_8ef34ac32e jw_f96c99f44d jw_4737f96f0a jn_X11_byteAt rfl (jj_le rfl) (jj_le rfl) (jj_le rfl) (jj_le rfl) (jj_le rfl) dX11_next_115 rfl (fun _ _ _ hX => hX.elim) (fun rx pl_176 r O_180 => ?_)
              obtain ⟨rfl, hok_177, hr_178, ha_179, hR_181⟩ := O_180
              replace hf_9 := hr_178.at hk0 (by decide) (by decide) hf_9
              replace hf_30 := hr_178.at hk0 (by decide) (by decide) hf_30
              replace hm := hm.fr hr_178 hk0 rfl
              replace hfr := hfr.trans (hr_178.sub (by decide))
              replace hfa := hfa.trans (ha_179.sub (by decide))
              rcases hR_181 with rfl | ⟨x_182, lx_182, ux_182, rfl⟩
              · refine jj_i2l (v := (-1)) C dX11_next_118 (by decide) ?_
                refine jj_ldc2 (v := 48) C dX11_next_119 jw_d6cfdd4319 ?_
                refine jj_ldc2 (v := 57) C dX11_next_122 jw_8c7ed3b7a5 ?_
                refine tt_call0S (rest := []) C (ct_X11_in_3 hl D cA ak) jw_2a24feddee jw_12f28ccfda jw_f96c99f44d jw_e07c9ada56 jn_X11_in rfl (jj_le rfl) (jj_le rfl) (jj_le rfl) (jj_le rfl) (jj_le rfl) dX11_next_125 rfl (fun w1 r O_183 => ?_)
                obtain ⟨-, rfl⟩ := O_183
                refine jj_if_eqT (tgt := 165) C dX11_next_128 (by decide) (by decide) ?_
                refine jj_aload_n C dX11_next_165 rfl ?_
                refine tt_getF C hok_177 jk_12 15 (by decide) jw_165232ba7c (t := (0, 0, 400)) hk0 (by decide) rfl rfl hf_30 dX11_next_166 ?_
                refine jj_aload_n C dX11_next_169 rfl ?_
                refine tt_get C hok_177 jk_12 16 (by decide) jw_28b46cb90c (t := (0, 0, 400)) hk0 (by decide) rfl rfl dX11_next_170 (fun v_184 hv_184 hf_185 => ?_)
                obtain ⟨x_186, rfl, lx_186, ux_186⟩ := tt_vi hv_184
                refine jj_icmp_ge (tgt := 186) C dX11_next_173 (by decide) (fun c_187 => ?_) (fun c_187 => ?_)
                · have z_c_187 := jc_le (a := x_186.toInt) (b := x_8.toInt) c_187 rfl rfl
                  exact jj_vret C ⟨[], pl_176, rfl, rfl, hok_177, hfr, hfa, rfl⟩ dX11_next_186 (jj_le rfl) (jj_le rfl)
                · have z_c_187 := jc_nle (a := x_186.toInt) (b := x_8.toInt) c_187 rfl rfl
                  refine jj_aload_n C dX11_next_176 rfl ?_
                  refine jj_dup C dX11_next_177 rfl ?_
                  refine tt_getF C hok_177 jk_12 15 (by decide) jw_165232ba7c (t := (0, 0, 400)) hk0 (by decide) rfl rfl hf_30 dX11_next_178 ?_
                  refine jj_iconst (v := 1) C dX11_next_181 (by decide) ?_
                  obtain ⟨x_188, ex_188, vx_188⟩ := tt_iadd (x := x_8) (y := (1 : Int32)) (a := x_8.toInt) rfl (b := 1) (by decide) (by omega) (by omega)
                  refine jj_iadd (v := x_188) C dX11_next_182 ex_188 ?_
                  refine rl_put C hok_177 jk_12 15 (by decide) jw_165232ba7c (t := (0, 0, 400)) hk0 (by decide) rfl rfl rfl (tt_iv (by omega) (by omega)) rfl rfl dX11_next_183 (fun pl_189 hok_190 tr hn tl => ?_)
                  replace hf_9 := tr _ _ _ (Or.inr (by decide)) hf_9
                  replace hf_185 := tr _ _ _ (Or.inr (by decide)) hf_185
                  have hf_191 := hn
                  replace hm := hm.put tr (by decide)
                  replace hfr := hfr.put hk0 tr (by decide)
                  replace hfa := hfa.all tl
                  exact jj_vret C ⟨[], pl_189, rfl, rfl, hok_190, hfr, hfa, rfl⟩ dX11_next_186 (jj_le rfl) (jj_le rfl)
              · obtain ⟨y_192, ey_192, vy_192⟩ := tt_i2l x_182
                refine jj_i2l (v := y_192) C dX11_next_118 ey_192 ?_
                refine jj_ldc2 (v := 48) C dX11_next_119 jw_d6cfdd4319 ?_
                refine jj_ldc2 (v := 57) C dX11_next_122 jw_8c7ed3b7a5 ?_
                refine tt_call0S (rest := []) C (ct_X11_in_4 hl D cA ak y_192) jw_2a24feddee jw_12f28ccfda jw_f96c99f44d jw_e07c9ada56 jn_X11_in rfl (jj_le rfl) (jj_le rfl) (jj_le rfl) (jj_le rfl) (jj_le rfl) dX11_next_125 rfl (fun w1 r O_193 => ?_)
                rcases O_193 with ⟨c_194, -, rfl⟩ | ⟨c_195, c_196, -, rfl⟩ | ⟨c_197, c_198, -, rfl⟩
                · have z_c_194 := jc_ltL (a := y_192.toInt) (b := 48) c_194 rfl (by decide)
                  refine jj_if_eqT (tgt := 165) C dX11_next_128 (by decide) (by decide) ?_
                  refine jj_aload_n C dX11_next_165 rfl ?_
                  refine tt_getF C hok_177 jk_12 15 (by decide) jw_165232ba7c (t := (0, 0, 400)) hk0 (by decide) rfl rfl hf_30 dX11_next_166 ?_
                  refine jj_aload_n C dX11_next_169 rfl ?_
                  refine tt_get C hok_177 jk_12 16 (by decide) jw_28b46cb90c (t := (0, 0, 400)) hk0 (by decide) rfl rfl dX11_next_170 (fun v_199 hv_199 hf_200 => ?_)
                  obtain ⟨x_201, rfl, lx_201, ux_201⟩ := tt_vi hv_199
                  refine jj_icmp_ge (tgt := 186) C dX11_next_173 (by decide) (fun c_202 => ?_) (fun c_202 => ?_)
                  · have z_c_202 := jc_le (a := x_201.toInt) (b := x_8.toInt) c_202 rfl rfl
                    exact jj_vret C ⟨[], pl_176, rfl, rfl, hok_177, hfr, hfa, rfl⟩ dX11_next_186 (jj_le rfl) (jj_le rfl)
                  · have z_c_202 := jc_nle (a := x_201.toInt) (b := x_8.toInt) c_202 rfl rfl
                    refine jj_aload_n C dX11_next_176 rfl ?_
                    refine jj_dup C dX11_next_177 rfl ?_
                    refine tt_getF C hok_177 jk_12 15 (by decide) jw_165232ba7c (t := (0, 0, 400)) hk0 (by decide) rfl rfl hf_30 dX11_next_178 ?_
                    refine jj_iconst (v := 1) C dX11_next_181 (by decide) ?_
                    obtain ⟨x_203, ex_203, vx_203⟩ := tt_iadd (x := x_8) (y := (1 : Int32)) (a := x_8.toInt) rfl (b := 1) (by decide) (by omega) (by omega)
                    refine jj_iadd (v := x_203) C dX11_next_182 ex_203 ?_
                    refine rl_put C hok_177 jk_12 15 (by decide) jw_165232ba7c (t := (0, 0, 400)) hk0 (by decide) rfl rfl rfl (tt_iv (by omega) (by omega)) rfl rfl dX11_next_183 (fun pl_204 hok_205 tr hn tl => ?_)
                    replace hf_9 := tr _ _ _ (Or.inr (by decide)) hf_9
                    replace hf_200 := tr _ _ _ (Or.inr (by decide)) hf_200
                    have hf_206 := hn
                    replace hm := hm.put tr (by decide)
                    replace hfr := hfr.put hk0 tr (by decide)
                    replace hfa := hfa.all tl
                    exact jj_vret C ⟨[], pl_204, rfl, rfl, hok_205, hfr, hfa, rfl⟩ dX11_next_186 (jj_le rfl) (jj_le rfl)
                · have z_c_195 := jc_nltL (a := y_192.toInt) (b := 48) c_195 rfl (by decide)
                  have z_c_196 := jc_ltL (a := 57) (b := y_192.toInt) c_196 (by decide) rfl
                  refine jj_if_eqT (tgt := 165) C dX11_next_128 (by decide) (by decide) ?_
                  refine jj_aload_n C dX11_next_165 rfl ?_
                  refine tt_getF C hok_177 jk_12 15 (by decide) jw_165232ba7c (t := (0, 0, 400)) hk0 (by decide) rfl rfl hf_30 dX11_next_166 ?_
                  refine jj_aload_n C dX11_next_169 rfl ?_
                  refine tt_get C hok_177 jk_12 16 (by decide) jw_28b46cb90c (t := (0, 0, 400)) hk0 (by decide) rfl rfl dX11_next_170 (fun v_207 hv_207 hf_208 => ?_)
                  obtain ⟨x_209, rfl, lx_209, ux_209⟩ := tt_vi hv_207
                  refine jj_icmp_ge (tgt := 186) C dX11_next_173 (by decide) (fun c_210 => ?_) (fun c_210 => ?_)
                  · have z_c_210 := jc_le (a := x_209.toInt) (b := x_8.toInt) c_210 rfl rfl
                    exact jj_vret C ⟨[], pl_176, rfl, rfl, hok_177, hfr, hfa, rfl⟩ dX11_next_186 (jj_le rfl) (jj_le rfl)
                  · have z_c_210 := jc_nle (a := x_209.toInt) (b := x_8.toInt) c_210 rfl rfl
                    refine jj_aload_n C dX11_next_176 rfl ?_
                    refine jj_dup C dX11_next_177 rfl ?_
                    refine tt_getF C hok_177 jk_12 15 (by decide) jw_165232ba7c (t := (0, 0, 400)) hk0 (by decide) rfl rfl hf_30 dX11_next_178 ?_
                    refine jj_iconst (v := 1) C dX11_next_181 (by decide) ?_
                    obtain ⟨x_211, ex_211, vx_211⟩ := tt_iadd (x := x_8) (y := (1 : Int32)) (a := x_8.toInt) rfl (b := 1) (by decide) (by omega) (by omega)
                    refine jj_iadd (v := x_211) C dX11_next_182 ex_211 ?_
                    refine rl_put C hok_177 jk_12 15 (by decide) jw_165232ba7c (t := (0, 0, 400)) hk0 (by decide) rfl rfl rfl (tt_iv (by omega) (by omega)) rfl rfl dX11_next_183 (fun pl_212 hok_213 tr hn tl => ?_)
                    replace hf_9 := tr _ _ _ (Or.inr (by decide)) hf_9
                    replace hf_208 := tr _ _ _ (Or.inr (by decide)) hf_208
                    have hf_214 := hn
                    replace hm := hm.put tr (by decide)
                    replace hfr := hfr.put hk0 tr (by decide)
                    replace hfa := hfa.all tl
                    exact jj_vret C ⟨[], pl_212, rfl, rfl, hok_213, hfr, hfa, rfl⟩ dX11_next_186 (jj_le rfl) (jj_le rfl)
                · have z_c_197 := jc_nltL (a := y_192.toInt) (b := 48) c_197 rfl (by decide)
                  have z_c_198 := jc_nltL (a := 57) (b := y_192.toInt) c_198 (by decide) rfl
                  refine jj_if_eqF (tgt := 165) C dX11_next_128 (by decide) (by decide) ?_
                  have hL_215 : ∀ (N : Nat) (pl : va_W) (x_216 : Int32), True → tt_ok rt_tk cA Kd pl → tt_fr Kd [(1, 14), (1, 15)] pl0 pl → tt_fa Kd [] pl0 pl → rl_m pl h0 aw aa at0 ai af ap → tt_at pl h0 15 (.int x_216) → (0 : Int) ≤ x_216.toInt → x_216.toInt ≤ 400 → (401 - x_216.toInt ≤ (N : Int)) → jj_J p l e (jj_rm 1 25 0 0) s m args below meth c 1 A (vx_MQ below (jj_q D A (tt_O (fun rx pl1 r => rx = [] ∧ tt_ok rt_tk cA Kd pl1 ∧ tt_fr Kd [(1, 14), (1, 15)] pl0 pl1 ∧ tt_fa Kd [] pl0 pl1 ∧ ((r = none))))) (jj_x D A (tt_OX (fun _ _ _ => False))) args s 0 0 A) (jj_X D A ([] ++ pl)) 0 0 131 [(0, .ref h0)] [] := by
                    intro NL_215
                    induction NL_215 with
                    | zero => intro pl x_216 _ hok hfr hfa hm hf_217 lx_216 ux_216 hNL_215; exfalso; omega
                    | succ NL_215 ihL_215 =>
                      intro pl x_216 _ hok hfr hfa hm hf_217 lx_216 ux_216 hNL_215
                      replace ihL_215 := fun pl x_216 h1 => ihL_215 pl x_216 trivial h1
                      refine jj_aload_n C dX11_next_131 rfl ?_
                      refine jj_aload_n C dX11_next_132 rfl ?_
                      refine tt_getF C hok jk_12 15 (by decide) jw_165232ba7c (t := (0, 0, 400)) hk0 (by decide) rfl rfl hf_217 dX11_next_133 ?_
                      obtain ⟨qc, gs, hqc⟩ := tt_recv (cx := []) hok hk0 (by decide) rfl
                      refine tt_callV (rest := []) C (rc_X11_byteAt_4afdc3 hl D cA ak x_216 hk0 hkw hka hkt hki hkf hkp (by omega) (by omega) hok hm) [] [] rfl rfl (by decide) (by decide) (by decide) qc hqc rfl rfl jw_98db775389 jw_8e26deba02 jw_8ef34ac32e jw_f96c99f44d jw_4737f96f0a jn_X11_byteAt rfl (jj_le rfl) (jj_le rfl) (jj_le rfl) (jj_le rfl) (jj_le rfl) dX11_next_136 rfl (fun _ _ _ hX => hX.elim) (fun rx pl_218 r O_222 => ?_)
                      obtain ⟨rfl, hok_219, hr_220, ha_221, hR_223⟩ := O_222
                      replace hf_217 := hr_220.at hk0 (by decide) (by decide) hf_217
                      replace hm := hm.fr hr_220 hk0 rfl
                      replace hfr := hfr.trans (hr_220.sub (by decide))
                      replace hfa := hfa.trans (ha_221.sub (by decide))
                      rcases hR_223 with rfl | ⟨x_224, lx_224, ux_224, l_225, u_226, rfl⟩
                      · refine jj_i2l (v := (-1)) C dX11_next_139 (by decide) ?_
                        refine jj_ldc2 (v := 48) C dX11_next_140 jw_d6cfdd4319 ?_
                        refine jj_ldc2 (v := 57) C dX11_next_143 jw_8c7ed3b7a5 ?_
                        refine tt_call0S (rest := []) C (ct_X11_in_3 hl D cA ak) jw_2a24feddee jw_12f28ccfda jw_f96c99f44d jw_e07c9ada56 jn_X11_in rfl (jj_le rfl) (jj_le rfl) (jj_le rfl) (jj_le rfl) (jj_le rfl) dX11_next_146 rfl (fun w1 r O_227 => ?_)
                        obtain ⟨-, rfl⟩ := O_227
                        refine jj_if_eqT (tgt := 186) C dX11_next_149 (by decide) (by decide) ?_
                        exact jj_vret C ⟨[], pl_218, rfl, rfl, hok_219, hfr, hfa, rfl⟩ dX11_next_186 (jj_le rfl) (jj_le rfl)
                      · obtain ⟨y_228, ey_228, vy_228⟩ := tt_i2l x_224
                        refine jj_i2l (v := y_228) C dX11_next_139 ey_228 ?_
                        refine jj_ldc2 (v := 48) C dX11_next_140 jw_d6cfdd4319 ?_
                        refine jj_ldc2 (v := 57) C dX11_next_143 jw_8c7ed3b7a5 ?_
                        refine tt_call0S (rest := []) C (ct_X11_in_4 hl D cA ak y_228) jw_2a24feddee jw_12f28ccfda jw_f96c99f44d jw_e07c9ada56 jn_X11_in rfl (jj_le rfl) (jj_le rfl) (jj_le rfl) (jj_le rfl) (jj_le rfl) dX11_next_146 rfl (fun w1 r O_229 => ?_)
                        rcases O_229 with ⟨c_230, -, rfl⟩ | ⟨c_231, c_232, -, rfl⟩ | ⟨c_233, c_234, -, rfl⟩
                        · have z_c_230 := jc_ltL (a := y_228.toInt) (b := 48) c_230 rfl (by decide)
                          refine jj_if_eqT (tgt := 186) C dX11_next_149 (by decide) (by decide) ?_
                          exact jj_vret C ⟨[], pl_218, rfl, rfl, hok_219, hfr, hfa, rfl⟩ dX11_next_186 (jj_le rfl) (jj_le rfl)
                        · have z_c_231 := jc_nltL (a := y_228.toInt) (b := 48) c_231 rfl (by decide)
                          have z_c_232 := jc_ltL (a := 57) (b := y_228.toInt) c_232 (by decide) rfl
                          refine jj_if_eqT (tgt := 186) C dX11_next_149 (by decide) (by decide) ?_
                          exact jj_vret C ⟨[], pl_218, rfl, rfl, hok_219, hfr, hfa, rfl⟩ dX11_next_186 (jj_le rfl) (jj_le rfl)
                        · have z_c_233 := jc_nltL (a := y_228.toInt) (b := 48) c_233 rfl (by decide)
                          have z_c_234 := jc_nltL (a := 57) (b := y_228.toInt) c_234 (by decide) rfl
                          refine jj_if_eqF (tgt := 186) C dX11_next_149 (by decide) (by decide) ?_
                          refine jj_aload_n C dX11_next_152 rfl ?_
                          refine jj_dup C dX11_next_153 rfl ?_
                          refine tt_getF C hok_219 jk_12 15 (by decide) jw_165232ba7c (t := (0, 0, 400)) hk0 (by decide) rfl rfl hf_217 dX11_next_154 ?_
                          refine jj_iconst (v := 1) C dX11_next_157 (by decide) ?_
                          obtain ⟨x_235, ex_235, vx_235⟩ := tt_iadd (x := x_216) (y := (1 : Int32)) (a := x_216.toInt) rfl (b := 1) (by decide) (by omega) (by omega)
                          refine jj_iadd (v := x_235) C dX11_next_158 ex_235 ?_
                          refine rl_put C hok_219 jk_12 15 (by decide) jw_165232ba7c (t := (0, 0, 400)) hk0 (by decide) rfl rfl rfl (tt_iv (by omega) (by omega)) rfl rfl dX11_next_159 (fun pl_236 hok_237 tr hn tl => ?_)
                          have hf_238 := hn
                          replace hm := hm.put tr (by decide)
                          replace hfr := hfr.put hk0 tr (by decide)
                          replace hfa := hfa.all tl
                          refine jj_goto (tgt := 131) C dX11_next_162 (by decide) ?_
                          exact ihL_215 pl_236 x_235 hok_237 hfr hfa hm hf_238 (by first | omega | decide | exact tt_lo _ | exact tt_hi _) (by first | omega | decide | exact tt_lo _ | exact tt_hi _) (by first | omega | decide | exact tt_lo _ | exact tt_hi _)
                  exact hL_215 _ pl_176 x_8 trivial hok_177 hfr hfa hm hf_30 (by first | omega | decide | exact tt_lo _ | exact tt_hi _) (by first | omega | decide | exact tt_lo _ | exact tt_hi _) (Int.self_le_toNat _)
            · have z_c_111 := jc_nltL (a := y_106.toInt) (b := 97) c_111 rfl (by decide)
              have z_c_112 := jc_nltL (a := 122) (b := y_106.toInt) c_112 (by decide) rfl
              refine jj_if_eqF (tgt := 110) C dX11_next_73 (by decide) (by decide) ?_
              have hL_239 : ∀ (N : Nat) (pl : va_W) (x_240 : Int32), True → tt_ok rt_tk cA Kd pl → tt_fr Kd [(1, 14), (1, 15)] pl0 pl → tt_fa Kd [] pl0 pl → rl_m pl h0 aw aa at0 ai af ap → tt_at pl h0 15 (.int x_240) → (0 : Int) ≤ x_240.toInt → x_240.toInt ≤ 400 → (401 - x_240.toInt ≤ (N : Int)) → jj_J p l e (jj_rm 1 25 0 0) s m args below meth c 1 A (vx_MQ below (jj_q D A (tt_O (fun rx pl1 r => rx = [] ∧ tt_ok rt_tk cA Kd pl1 ∧ tt_fr Kd [(1, 14), (1, 15)] pl0 pl1 ∧ tt_fa Kd [] pl0 pl1 ∧ ((r = none))))) (jj_x D A (tt_OX (fun _ _ _ => False))) args s 0 0 A) (jj_X D A ([] ++ pl)) 0 0 76 [(0, .ref h0)] [] := by
                intro NL_239
                induction NL_239 with
                | zero => intro pl x_240 _ hok hfr hfa hm hf_241 lx_240 ux_240 hNL_239; exfalso; omega
                | succ NL_239 ihL_239 =>
                  intro pl x_240 _ hok hfr hfa hm hf_241 lx_240 ux_240 hNL_239
                  replace ihL_239 := fun pl x_240 h1 => ihL_239 pl x_240 trivial h1
                  refine jj_aload_n C dX11_next_76 rfl ?_
                  refine jj_aload_n C dX11_next_77 rfl ?_
                  refine tt_getF C hok jk_12 15 (by decide) jw_165232ba7c (t := (0, 0, 400)) hk0 (by decide) rfl rfl hf_241 dX11_next_78 ?_
                  obtain ⟨qc, gs, hqc⟩ := tt_recv (cx := []) hok hk0 (by decide) rfl
                  refine tt_callV (rest := []) C (rc_X11_byteAt_4afdc3 hl D cA ak x_240 hk0 hkw hka hkt hki hkf hkp (by omega) (by omega) hok hm) [] [] rfl rfl (by decide) (by decide) (by decide) qc hqc rfl rfl jw_98db775389 jw_8e26deba02 jw_8ef34ac32e jw_f96c99f44d jw_4737f96f0a jn_X11_byteAt rfl (jj_le rfl) (jj_le rfl) (jj_le rfl) (jj_le rfl) (jj_le rfl) dX11_next_81 rfl (fun _ _ _ hX => hX.elim) (fun rx pl_242 r O_246 => ?_)
                  obtain ⟨rfl, hok_243, hr_244, ha_245, hR_247⟩ := O_246
                  replace hf_241 := hr_244.at hk0 (by decide) (by decide) hf_241
                  replace hm := hm.fr hr_244 hk0 rfl
                  replace hfr := hfr.trans (hr_244.sub (by decide))
                  replace hfa := hfa.trans (ha_245.sub (by decide))
                  rcases hR_247 with rfl | ⟨x_248, lx_248, ux_248, l_249, u_250, rfl⟩
                  · refine jj_i2l (v := (-1)) C dX11_next_84 (by decide) ?_
                    refine jj_ldc2 (v := 97) C dX11_next_85 jw_39d46451b9 ?_
                    refine jj_ldc2 (v := 122) C dX11_next_88 jw_33d5fc8685 ?_
                    refine tt_call0S (rest := []) C (ct_X11_in_2 hl D cA ak) jw_2a24feddee jw_12f28ccfda jw_f96c99f44d jw_e07c9ada56 jn_X11_in rfl (jj_le rfl) (jj_le rfl) (jj_le rfl) (jj_le rfl) (jj_le rfl) dX11_next_91 rfl (fun w1 r O_251 => ?_)
                    obtain ⟨-, rfl⟩ := O_251
                    refine jj_if_eqT (tgt := 186) C dX11_next_94 (by decide) (by decide) ?_
                    exact jj_vret C ⟨[], pl_242, rfl, rfl, hok_243, hfr, hfa, rfl⟩ dX11_next_186 (jj_le rfl) (jj_le rfl)
                  · obtain ⟨y_252, ey_252, vy_252⟩ := tt_i2l x_248
                    refine jj_i2l (v := y_252) C dX11_next_84 ey_252 ?_
                    refine jj_ldc2 (v := 97) C dX11_next_85 jw_39d46451b9 ?_
                    refine jj_ldc2 (v := 122) C dX11_next_88 jw_33d5fc8685 ?_
                    refine tt_call0S (rest := []) C (ct_X11_in_5 hl D cA ak y_252) jw_2a24feddee jw_12f28ccfda jw_f96c99f44d jw_e07c9ada56 jn_X11_in rfl (jj_le rfl) (jj_le rfl) (jj_le rfl) (jj_le rfl) (jj_le rfl) dX11_next_91 rfl (fun w1 r O_253 => ?_)
                    rcases O_253 with ⟨c_254, -, rfl⟩ | ⟨c_255, c_256, -, rfl⟩ | ⟨c_257, c_258, -, rfl⟩
                    · have z_c_254 := jc_ltL (a := y_252.toInt) (b := 97) c_254 rfl (by decide)
                      refine jj_if_eqT (tgt := 186) C dX11_next_94 (by decide) (by decide) ?_
                      exact jj_vret C ⟨[], pl_242, rfl, rfl, hok_243, hfr, hfa, rfl⟩ dX11_next_186 (jj_le rfl) (jj_le rfl)
                    · have z_c_255 := jc_nltL (a := y_252.toInt) (b := 97) c_255 rfl (by decide)
                      have z_c_256 := jc_ltL (a := 122) (b := y_252.toInt) c_256 (by decide) rfl
                      refine jj_if_eqT (tgt := 186) C dX11_next_94 (by decide) (by decide) ?_
                      exact jj_vret C ⟨[], pl_242, rfl, rfl, hok_243, hfr, hfa, rfl⟩ dX11_next_186 (jj_le rfl) (jj_le rfl)
                    · have z_c_257 := jc_nltL (a := y_252.toInt) (b := 97) c_257 rfl (by decide)
                      have z_c_258 := jc_nltL (a := 122) (b := y_252.toInt) c_258 (by decide) rfl
                      refine jj_if_eqF (tgt := 186) C dX11_next_94 (by decide) (by decide) ?_
                      refine jj_aload_n C dX11_next_97 rfl ?_
                      refine jj_dup C dX11_next_98 rfl ?_
                      refine tt_getF C hok_243 jk_12 15 (by decide) jw_165232ba7c (t := (0, 0, 400)) hk0 (by decide) rfl rfl hf_241 dX11_next_99 ?_
                      refine jj_iconst (v := 1) C dX11_next_102 (by decide) ?_
                      obtain ⟨x_259, ex_259, vx_259⟩ := tt_iadd (x := x_240) (y := (1 : Int32)) (a := x_240.toInt) rfl (b := 1) (by decide) (by omega) (by omega)
                      refine jj_iadd (v := x_259) C dX11_next_103 ex_259 ?_
                      refine rl_put C hok_243 jk_12 15 (by decide) jw_165232ba7c (t := (0, 0, 400)) hk0 (by decide) rfl rfl rfl (tt_iv (by omega) (by omega)) rfl rfl dX11_next_104 (fun pl_260 hok_261 tr hn tl => ?_)
                      have hf_262 := hn
                      replace hm := hm.put tr (by decide)
                      replace hfr := hfr.put hk0 tr (by decide)
                      replace hfa := hfa.all tl
                      refine jj_goto (tgt := 76) C dX11_next_107 (by decide) ?_
                      exact ihL_239 pl_260 x_259 hok_261 hfr hfa hm hf_262 (by first | omega | decide | exact tt_lo _ | exact tt_hi _) (by first | omega | decide | exact tt_lo _ | exact tt_hi _) (by first | omega | decide | exact tt_lo _ | exact tt_hi _)
              exact hL_239 _ pl_31 x_8 trivial hok_32 hfr hfa hm hf_30 (by first | omega | decide | exact tt_lo _ | exact tt_hi _) (by first | omega | decide | exact tt_lo _ | exact tt_hi _) (Int.self_le_toNat _)
        · refine jj_bipush (v := 10) C dX11_next_29 (by decide) ?_
          refine jj_icmp_ne (tgt := 47) C dX11_next_31 (by decide) (fun c_263 => ?_) (fun c_263 => ?_)
          · have z_c_263 := jc_neq (a := x_25.toInt) (b := 10) c_263 rfl (by decide)
            refine jj_aload_n C dX11_next_47 rfl ?_
            refine jj_aload_n C dX11_next_48 rfl ?_
            refine tt_getF C hok_20 jk_12 14 (by decide) jw_6446e1fd81 (t := (0, 0, 400)) hk0 (by decide) rfl rfl hf_9 dX11_next_49 ?_
            refine rl_put C hok_20 jk_12 15 (by decide) jw_165232ba7c (t := (0, 0, 400)) hk0 (by decide) rfl rfl rfl (tt_iv (by omega) (by omega)) rfl rfl dX11_next_52 (fun pl_264 hok_265 tr hn tl => ?_)
            replace hf_9 := tr _ _ _ (Or.inr (by decide)) hf_9
            have hf_266 := hn
            replace hm := hm.put tr (by decide)
            replace hfr := hfr.put hk0 tr (by decide)
            replace hfa := hfa.all tl
            refine jj_aload_n C dX11_next_55 rfl ?_
            refine jj_aload_n C dX11_next_56 rfl ?_
            refine tt_getF C hok_265 jk_12 15 (by decide) jw_165232ba7c (t := (0, 0, 400)) hk0 (by decide) rfl rfl hf_266 dX11_next_57 ?_
            obtain ⟨qc, gs, hqc⟩ := tt_recv (cx := []) hok_265 hk0 (by decide) rfl
            refine tt_callV (rest := []) C (rc_X11_byteAt_f5f728 hl D cA ak x_8 hk0 hkw hka hkt hki hkf hkp (by omega) (by omega) hok_265 hm) [] [] rfl rfl (by decide) (by decide) (by decide) qc hqc rfl rfl jw_98db775389 jw_8e26deba02 jw_8ef34ac32e jw_f96c99f44d jw_4737f96f0a jn_X11_byteAt rfl (jj_le rfl) (jj_le rfl) (jj_le rfl) (jj_le rfl) (jj_le rfl) dX11_next_60 rfl (fun _ _ _ hX => hX.elim) (fun rx pl_267 r O_271 => ?_)
            obtain ⟨rfl, hok_268, hr_269, ha_270, hR_272⟩ := O_271
            replace hf_9 := hr_269.at hk0 (by decide) (by decide) hf_9
            replace hf_266 := hr_269.at hk0 (by decide) (by decide) hf_266
            replace hm := hm.fr hr_269 hk0 rfl
            replace hfr := hfr.trans (hr_269.sub (by decide))
            replace hfa := hfa.trans (ha_270.sub (by decide))
            rcases hR_272 with rfl | ⟨x_273, lx_273, ux_273, rfl⟩
            · refine jj_i2l (v := (-1)) C dX11_next_63 (by decide) ?_
              refine jj_ldc2 (v := 97) C dX11_next_64 jw_39d46451b9 ?_
              refine jj_ldc2 (v := 122) C dX11_next_67 jw_33d5fc8685 ?_
              refine tt_call0S (rest := []) C (ct_X11_in_2 hl D cA ak) jw_2a24feddee jw_12f28ccfda jw_f96c99f44d jw_e07c9ada56 jn_X11_in rfl (jj_le rfl) (jj_le rfl) (jj_le rfl) (jj_le rfl) (jj_le rfl) dX11_next_70 rfl (fun w1 r O_274 => ?_)
              obtain ⟨-, rfl⟩ := O_274
              refine jj_if_eqT (tgt := 110) C dX11_next_73 (by decide) (by decide) ?_
              refine jj_aload_n C dX11_next_110 rfl ?_
              refine jj_aload_n C dX11_next_111 rfl ?_
              refine tt_getF C hok_268 jk_12 15 (by decide) jw_165232ba7c (t := (0, 0, 400)) hk0 (by decide) rfl rfl hf_266 dX11_next_112 ?_
              obtain ⟨qc, gs, hqc⟩ := tt_recv (cx := []) hok_268 hk0 (by decide) rfl
              refine tt_callV (rest := []) C (rc_X11_byteAt_f5f728 hl D cA ak x_8 hk0 hkw hka hkt hki hkf hkp (by omega) (by omega) hok_268 hm) [] [] rfl rfl (by decide) (by decide) (by decide) qc hqc rfl rfl jw_98db775389 jw_8e26deba02 jw_8ef34ac32e jw_f96c99f44d jw_4737f96f0a jn_X11_byteAt rfl (jj_le rfl) (jj_le rfl) (jj_le rfl) (jj_le rfl) (jj_le rfl) dX11_next_115 rfl (fun _ _ _ hX => hX.elim) (fun rx pl_275 r O_279 => ?_)
              obtain ⟨rfl, hok_276, hr_277, ha_278, hR_280⟩ := O_279
              replace hf_9 := hr_277.at hk0 (by decide) (by decide) hf_9
              replace hf_266 := hr_277.at hk0 (by decide) (by decide) hf_266
              replace hm := hm.fr hr_277 hk0 rfl
              replace hfr := hfr.trans (hr_277.sub (by decide))
              replace hfa := hfa.trans (ha_278.sub (by decide))
              rcases hR_280 with rfl | ⟨x_281, lx_281, ux_281, rfl⟩
              · refine jj_i2l (v := (-1)) C dX11_next_118 (by decide) ?_
                refine jj_ldc2 (v := 48) C dX11_next_119 jw_d6cfdd4319 ?_
                refine jj_ldc2 (v := 57) C dX11_next_122 jw_8c7ed3b7a5 ?_
                refine tt_call0S (rest := []) C (ct_X11_in_3 hl D cA ak) jw_2a24feddee jw_12f28ccfda jw_f96c99f44d jw_e07c9ada56 jn_X11_in rfl (jj_le rfl) (jj_le rfl) (jj_le rfl) (jj_le rfl) (jj_le rfl) dX11_next_125 rfl (fun w1 r O_282 => ?_)
                obtain ⟨-, rfl⟩ := O_282
                refine jj_if_eqT (tgt := 165) C dX11_next_128 (by decide) (by decide) ?_
                refine jj_aload_n C dX11_next_165 rfl ?_
                refine tt_getF C hok_276 jk_12 15 (by decide) jw_165232ba7c (t := (0, 0, 400)) hk0 (by decide) rfl rfl hf_266 dX11_next_166 ?_
                refine jj_aload_n C dX11_next_169 rfl ?_
                refine tt_get C hok_276 jk_12 16 (by decide) jw_28b46cb90c (t := (0, 0, 400)) hk0 (by decide) rfl rfl dX11_next_170 (fun v_283 hv_283 hf_284 => ?_)
                obtain ⟨x_285, rfl, lx_285, ux_285⟩ := tt_vi hv_283
                refine jj_icmp_ge (tgt := 186) C dX11_next_173 (by decide) (fun c_286 => ?_) (fun c_286 => ?_)
                · have z_c_286 := jc_le (a := x_285.toInt) (b := x_8.toInt) c_286 rfl rfl
                  exact jj_vret C ⟨[], pl_275, rfl, rfl, hok_276, hfr, hfa, rfl⟩ dX11_next_186 (jj_le rfl) (jj_le rfl)
                · have z_c_286 := jc_nle (a := x_285.toInt) (b := x_8.toInt) c_286 rfl rfl
                  refine jj_aload_n C dX11_next_176 rfl ?_
                  refine jj_dup C dX11_next_177 rfl ?_
                  refine tt_getF C hok_276 jk_12 15 (by decide) jw_165232ba7c (t := (0, 0, 400)) hk0 (by decide) rfl rfl hf_266 dX11_next_178 ?_
                  refine jj_iconst (v := 1) C dX11_next_181 (by decide) ?_
                  obtain ⟨x_287, ex_287, vx_287⟩ := tt_iadd (x := x_8) (y := (1 : Int32)) (a := x_8.toInt) rfl (b := 1) (by decide) (by omega) (by omega)
                  refine jj_iadd (v := x_287) C dX11_next_182 ex_287 ?_
                  refine rl_put C hok_276 jk_12 15 (by decide) jw_165232ba7c (t := (0, 0, 400)) hk0 (by decide) rfl rfl rfl (tt_iv (by omega) (by omega)) rfl rfl dX11_next_183 (fun pl_288 hok_289 tr hn tl => ?_)
                  replace hf_9 := tr _ _ _ (Or.inr (by decide)) hf_9
                  replace hf_284 := tr _ _ _ (Or.inr (by decide)) hf_284
                  have hf_290 := hn
                  replace hm := hm.put tr (by decide)
                  replace hfr := hfr.put hk0 tr (by decide)
                  replace hfa := hfa.all tl
                  exact jj_vret C ⟨[], pl_288, rfl, rfl, hok_289, hfr, hfa, rfl⟩ dX11_next_186 (jj_le rfl) (jj_le rfl)
              · obtain ⟨y_291, ey_291, vy_291⟩ := tt_i2l x_281
                refine jj_i2l (v := y_291) C dX11_next_118 ey_291 ?_
                refine jj_ldc2 (v := 48) C dX11_next_119 jw_d6cfdd4319 ?_
                refine jj_ldc2 (v := 57) C dX11_next_122 jw_8c7ed3b7a5 ?_
                refine tt_call0S (rest := []) C (ct_X11_in_4 hl D cA ak y_291) jw_2a24feddee jw_12f28ccfda jw_f96c99f44d jw_e07c9ada56 jn_X11_in rfl (jj_le rfl) (jj_le rfl) (jj_le rfl) (jj_le rfl) (jj_le rfl) dX11_next_125 rfl (fun w1 r O_292 => ?_)
                rcases O_292 with ⟨c_293, -, rfl⟩ | ⟨c_294, c_295, -, rfl⟩ | ⟨c_296, c_297, -, rfl⟩
                · have z_c_293 := jc_ltL (a := y_291.toInt) (b := 48) c_293 rfl (by decide)
                  refine jj_if_eqT (tgt := 165) C dX11_next_128 (by decide) (by decide) ?_
                  refine jj_aload_n C dX11_next_165 rfl ?_
                  refine tt_getF C hok_276 jk_12 15 (by decide) jw_165232ba7c (t := (0, 0, 400)) hk0 (by decide) rfl rfl hf_266 dX11_next_166 ?_
                  refine jj_aload_n C dX11_next_169 rfl ?_
                  refine tt_get C hok_276 jk_12 16 (by decide) jw_28b46cb90c (t := (0, 0, 400)) hk0 (by decide) rfl rfl dX11_next_170 (fun v_298 hv_298 hf_299 => ?_)
                  obtain ⟨x_300, rfl, lx_300, ux_300⟩ := tt_vi hv_298
                  refine jj_icmp_ge (tgt := 186) C dX11_next_173 (by decide) (fun c_301 => ?_) (fun c_301 => ?_)
                  · have z_c_301 := jc_le (a := x_300.toInt) (b := x_8.toInt) c_301 rfl rfl
                    exact jj_vret C ⟨[], pl_275, rfl, rfl, hok_276, hfr, hfa, rfl⟩ dX11_next_186 (jj_le rfl) (jj_le rfl)
                  · have z_c_301 := jc_nle (a := x_300.toInt) (b := x_8.toInt) c_301 rfl rfl
                    refine jj_aload_n C dX11_next_176 rfl ?_
                    refine jj_dup C dX11_next_177 rfl ?_
                    refine tt_getF C hok_276 jk_12 15 (by decide) jw_165232ba7c (t := (0, 0, 400)) hk0 (by decide) rfl rfl hf_266 dX11_next_178 ?_
                    refine jj_iconst (v := 1) C dX11_next_181 (by decide) ?_
                    obtain ⟨x_302, ex_302, vx_302⟩ := tt_iadd (x := x_8) (y := (1 : Int32)) (a := x_8.toInt) rfl (b := 1) (by decide) (by omega) (by omega)
                    refine jj_iadd (v := x_302) C dX11_next_182 ex_302 ?_
                    refine rl_put C hok_276 jk_12 15 (by decide) jw_165232ba7c (t := (0, 0, 400)) hk0 (by decide) rfl rfl rfl (tt_iv (by omega) (by omega)) rfl rfl dX11_next_183 (fun pl_303 hok_304 tr hn tl => ?_)
                    replace hf_9 := tr _ _ _ (Or.inr (by decide)) hf_9
                    replace hf_299 := tr _ _ _ (Or.inr (by decide)) hf_299
                    have hf_305 := hn
                    replace hm := hm.put tr (by decide)
                    replace hfr := hfr.put hk0 tr (by decide)
                    replace hfa := hfa.all tl
                    exact jj_vret C ⟨[], pl_303, rfl, rfl, hok_304, hfr, hfa, rfl⟩ dX11_next_186 (jj_le rfl) (jj_le rfl)
                · have z_c_294 := jc_nltL (a := y_291.toInt) (b := 48) c_294 rfl (by decide)
                  have z_c_295 := jc_ltL (a := 57) (b := y_291.toInt) c_295 (by decide) rfl
                  refine jj_if_eqT (tgt := 165) C dX11_next_128 (by decide) (by decide) ?_
                  refine jj_aload_n C dX11_next_165 rfl ?_
                  refine tt_getF C hok_276 jk_12 15 (by decide) jw_165232ba7c (t := (0, 0, 400)) hk0 (by decide) rfl rfl hf_266 dX11_next_166 ?_
                  refine jj_aload_n C dX11_next_169 rfl ?_
                  refine tt_get C hok_276 jk_12 16 (by decide) jw_28b46cb90c (t := (0, 0, 400)) hk0 (by decide) rfl rfl dX11_next_170 (fun v_306 hv_306 hf_307 => ?_)
                  obtain ⟨x_308, rfl, lx_308, ux_308⟩ := tt_vi hv_306
                  refine jj_icmp_ge (tgt := 186) C dX11_next_173 (by decide) (fun c_309 => ?_) (fun c_309 => ?_)
                  · have z_c_309 := jc_le (a := x_308.toInt) (b := x_8.toInt) c_309 rfl rfl
                    exact jj_vret C ⟨[], pl_275, rfl, rfl, hok_276, hfr, hfa, rfl⟩ dX11_next_186 (jj_le rfl) (jj_le rfl)
                  · have z_c_309 := jc_nle (a := x_308.toInt) (b := x_8.toInt) c_309 rfl rfl
                    refine jj_aload_n C dX11_next_176 rfl ?_
                    refine jj_dup C dX11_next_177 rfl ?_
                    refine tt_getF C hok_276 jk_12 15 (by decide) jw_165232ba7c (t := (0, 0, 400)) hk0 (by decide) rfl rfl hf_266 dX11_next_178 ?_
                    refine jj_iconst (v := 1) C dX11_next_181 (by decide) ?_
                    obtain ⟨x_310, ex_310, vx_310⟩ := tt_iadd (x := x_8) (y := (1 : Int32)) (a := x_8.toInt) rfl (b := 1) (by decide) (by omega) (by omega)
                    refine jj_iadd (v := x_310) C dX11_next_182 ex_310 ?_
                    refine rl_put C hok_276 jk_12 15 (by decide) jw_165232ba7c (t := (0, 0, 400)) hk0 (by decide) rfl rfl rfl (tt_iv (by omega) (by omega)) rfl rfl dX11_next_183 (fun pl_311 hok_312 tr hn tl => ?_)
                    replace hf_9 := tr _ _ _ (Or.inr (by decide)) hf_9
                    replace hf_307 := tr _ _ _ (Or.inr (by decide)) hf_307
                    have hf_313 := hn
                    replace hm := hm.put tr (by decide)
                    replace hfr := hfr.put hk0 tr (by decide)
                    replace hfa := hfa.all tl
                    exact jj_vret C ⟨[], pl_311, rfl, rfl, hok_312, hfr, hfa, rfl⟩ dX11_next_186 (jj_le rfl) (jj_le rfl)
                · have z_c_296 := jc_nltL (a := y_291.toInt) (b := 48) c_296 rfl (by decide)
                  have z_c_297 := jc_nltL (a := 57) (b := y_291.toInt) c_297 (by decide) rfl
                  refine jj_if_eqF (tgt := 165) C dX11_next_128 (by decide) (by decide) ?_
                  have hL_314 : ∀ (N : Nat) (pl : va_W) (x_315 : Int32), True → tt_ok rt_tk cA Kd pl → tt_fr Kd [(1, 14), (1, 15)] pl0 pl → tt_fa Kd [] pl0 pl → rl_m pl h0 aw aa at0 ai af ap → tt_at pl h0 15 (.int x_315) → (0 : Int) ≤ x_315.toInt → x_315.toInt ≤ 400 → (401 - x_315.toInt ≤ (N : Int)) → jj_J p l e (jj_rm 1 25 0 0) s m args below meth c 1 A (vx_MQ below (jj_q D A (tt_O (fun rx pl1 r => rx = [] ∧ tt_ok rt_tk cA Kd pl1 ∧ tt_fr Kd [(1, 14), (1, 15)] pl0 pl1 ∧ tt_fa Kd [] pl0 pl1 ∧ ((r = none))))) (jj_x D A (tt_OX (fun _ _ _ => False))) args s 0 0 A) (jj_X D A ([] ++ pl)) 0 0 131 [(0, .ref h0)] [] := by
                    intro NL_314
                    induction NL_314 with
                    | zero => intro pl x_315 _ hok hfr hfa hm hf_316 lx_315 ux_315 hNL_314; exfalso; omega
                    | succ NL_314 ihL_314 =>
                      intro pl x_315 _ hok hfr hfa hm hf_316 lx_315 ux_315 hNL_314
                      replace ihL_314 := fun pl x_315 h1 => ihL_314 pl x_315 trivial h1
                      refine jj_aload_n C dX11_next_131 rfl ?_
                      refine jj_aload_n C dX11_next_132 rfl ?_
                      refine tt_getF C hok jk_12 15 (by decide) jw_165232ba7c (t := (0, 0, 400)) hk0 (by decide) rfl rfl hf_316 dX11_next_133 ?_
                      obtain ⟨qc, gs, hqc⟩ := tt_recv (cx := []) hok hk0 (by decide) rfl
                      refine tt_callV (rest := []) C (rc_X11_byteAt_4afdc3 hl D cA ak x_315 hk0 hkw hka hkt hki hkf hkp (by omega) (by omega) hok hm) [] [] rfl rfl (by decide) (by decide) (by decide) qc hqc rfl rfl jw_98db775389 jw_8e26deba02 jw_8ef34ac32e jw_f96c99f44d jw_4737f96f0a jn_X11_byteAt rfl (jj_le rfl) (jj_le rfl) (jj_le rfl) (jj_le rfl) (jj_le rfl) dX11_next_136 rfl (fun _ _ _ hX => hX.elim) (fun rx pl_317 r O_321 => ?_)
                      obtain ⟨rfl, hok_318, hr_319, ha_320, hR_322⟩ := O_321
                      replace hf_316 := hr_319.at hk0 (by decide) (by decide) hf_316
                      replace hm := hm.fr hr_319 hk0 rfl
                      replace hfr := hfr.trans (hr_319.sub (by decide))
                      replace hfa := hfa.trans (ha_320.sub (by decide))
                      rcases hR_322 with rfl | ⟨x_323, lx_323, ux_323, l_324, u_325, rfl⟩
                      · refine jj_i2l (v := (-1)) C dX11_next_139 (by decide) ?_
                        refine jj_ldc2 (v := 48) C dX11_next_140 jw_d6cfdd4319 ?_
                        refine jj_ldc2 (v := 57) C dX11_next_143 jw_8c7ed3b7a5 ?_
                        refine tt_call0S (rest := []) C (ct_X11_in_3 hl D cA ak) jw_2a24feddee jw_12f28ccfda jw_f96c99f44d jw_e07c9ada56 jn_X11_in rfl (jj_le rfl) (jj_le rfl) (jj_le rfl) (jj_le rfl) (jj_le rfl) dX11_next_146 rfl (fun w1 r O_326 => ?_)
                        obtain ⟨-, rfl⟩ := O_326
                        refine jj_if_eqT (tgt := 186) C dX11_next_149 (by decide) (by decide) ?_
                        exact jj_vret C ⟨[], pl_317, rfl, rfl, hok_318, hfr, hfa, rfl⟩ dX11_next_186 (jj_le rfl) (jj_le rfl)
                      · obtain ⟨y_327, ey_327, vy_327⟩ := tt_i2l x_323
                        refine jj_i2l (v := y_327) C dX11_next_139 ey_327 ?_
                        refine jj_ldc2 (v := 48) C dX11_next_140 jw_d6cfdd4319 ?_
                        refine jj_ldc2 (v := 57) C dX11_next_143 jw_8c7ed3b7a5 ?_
                        refine tt_call0S (rest := []) C (ct_X11_in_4 hl D cA ak y_327) jw_2a24feddee jw_12f28ccfda jw_f96c99f44d jw_e07c9ada56 jn_X11_in rfl (jj_le rfl) (jj_le rfl) (jj_le rfl) (jj_le rfl) (jj_le rfl) dX11_next_146 rfl (fun w1 r O_328 => ?_)
                        rcases O_328 with ⟨c_329, -, rfl⟩ | ⟨c_330, c_331, -, rfl⟩ | ⟨c_332, c_333, -, rfl⟩
                        · have z_c_329 := jc_ltL (a := y_327.toInt) (b := 48) c_329 rfl (by decide)
                          refine jj_if_eqT (tgt := 186) C dX11_next_149 (by decide) (by decide) ?_
                          exact jj_vret C ⟨[], pl_317, rfl, rfl, hok_318, hfr, hfa, rfl⟩ dX11_next_186 (jj_le rfl) (jj_le rfl)
                        · have z_c_330 := jc_nltL (a := y_327.toInt) (b := 48) c_330 rfl (by decide)
                          have z_c_331 := jc_ltL (a := 57) (b := y_327.toInt) c_331 (by decide) rfl
                          refine jj_if_eqT (tgt := 186) C dX11_next_149 (by decide) (by decide) ?_
                          exact jj_vret C ⟨[], pl_317, rfl, rfl, hok_318, hfr, hfa, rfl⟩ dX11_next_186 (jj_le rfl) (jj_le rfl)
                        · have z_c_332 := jc_nltL (a := y_327.toInt) (b := 48) c_332 rfl (by decide)
                          have z_c_333 := jc_nltL (a := 57) (b := y_327.toInt) c_333 (by decide) rfl
                          refine jj_if_eqF (tgt := 186) C dX11_next_149 (by decide) (by decide) ?_
                          refine jj_aload_n C dX11_next_152 rfl ?_
                          refine jj_dup C dX11_next_153 rfl ?_
                          refine tt_getF C hok_318 jk_12 15 (by decide) jw_165232ba7c (t := (0, 0, 400)) hk0 (by decide) rfl rfl hf_316 dX11_next_154 ?_
                          refine jj_iconst (v := 1) C dX11_next_157 (by decide) ?_
                          obtain ⟨x_334, ex_334, vx_334⟩ := tt_iadd (x := x_315) (y := (1 : Int32)) (a := x_315.toInt) rfl (b := 1) (by decide) (by omega) (by omega)
                          refine jj_iadd (v := x_334) C dX11_next_158 ex_334 ?_
                          refine rl_put C hok_318 jk_12 15 (by decide) jw_165232ba7c (t := (0, 0, 400)) hk0 (by decide) rfl rfl rfl (tt_iv (by omega) (by omega)) rfl rfl dX11_next_159 (fun pl_335 hok_336 tr hn tl => ?_)
                          have hf_337 := hn
                          replace hm := hm.put tr (by decide)
                          replace hfr := hfr.put hk0 tr (by decide)
                          replace hfa := hfa.all tl
                          refine jj_goto (tgt := 131) C dX11_next_162 (by decide) ?_
                          exact ihL_314 pl_335 x_334 hok_336 hfr hfa hm hf_337 (by first | omega | decide | exact tt_lo _ | exact tt_hi _) (by first | omega | decide | exact tt_lo _ | exact tt_hi _) (by first | omega | decide | exact tt_lo _ | exact tt_hi _)
                  exact hL_314 _ pl_275 x_8 trivial hok_276 hfr hfa hm hf_266 (by first | omega | decide | exact tt_lo _ | exact tt_hi _) (by first | omega | decide | exact tt_lo _ | exact tt_hi _) (Int.self_le_toNat _)
            · obtain ⟨y_338, ey_338, vy_338⟩ := tt_i2l x_273
              refine jj_i2l (v := y_338) C dX11_next_63 ey_338 ?_
              refine jj_ldc2 (v := 97) C dX11_next_64 jw_39d46451b9 ?_
              refine jj_ldc2 (v := 122) C dX11_next_67 jw_33d5fc8685 ?_
              refine tt_call0S (rest := []) C (ct_X11_in_5 hl D cA ak y_338) jw_2a24feddee jw_12f28ccfda jw_f96c99f44d jw_e07c9ada56 jn_X11_in rfl (jj_le rfl) (jj_le rfl) (jj_le rfl) (jj_le rfl) (jj_le rfl) dX11_next_70 rfl (fun w1 r O_339 => ?_)
              rcases O_339 with ⟨c_340, -, rfl⟩ | ⟨c_341, c_342, -, rfl⟩ | ⟨c_343, c_344, -, rfl⟩
              · have z_c_340 := jc_ltL (a := y_338.toInt) (b := 97) c_340 rfl (by decide)
                refine jj_if_eqT (tgt := 110) C dX11_next_73 (by decide) (by decide) ?_
                refine jj_aload_n C dX11_next_110 rfl ?_
                refine jj_aload_n C dX11_next_111 rfl ?_
                refine tt_getF C hok_268 jk_12 15 (by decide) jw_165232ba7c (t := (0, 0, 400)) hk0 (by decide) rfl rfl hf_266 dX11_next_112 ?_
                obtain ⟨qc, gs, hqc⟩ := tt_recv (cx := []) hok_268 hk0 (by decide) rfl
                refine tt_callV (rest := []) C (rc_X11_byteAt_f5f728 hl D cA ak x_8 hk0 hkw hka hkt hki hkf hkp (by omega) (by omega) hok_268 hm) [] [] rfl rfl (by decide) (by decide) (by decide) qc hqc rfl rfl jw_98db775389 jw_8e26deba02 jw_8ef34ac32e jw_f96c99f44d jw_4737f96f0a jn_X11_byteAt rfl (jj_le rfl) (jj_le rfl) (jj_le rfl) (jj_le rfl) (jj_le rfl) dX11_next_115 rfl (fun _ _ _ hX => hX.elim) (fun rx pl_345 r O_349 => ?_)
                obtain ⟨rfl, hok_346, hr_347, ha_348, hR_350⟩ := O_349
                replace hf_9 := hr_347.at hk0 (by decide) (by decide) hf_9
                replace hf_266 := hr_347.at hk0 (by decide) (by decide) hf_266
                replace hm := hm.fr hr_347 hk0 rfl
                replace hfr := hfr.trans (hr_347.sub (by decide))
                replace hfa := hfa.trans (ha_348.sub (by decide))
                rcases hR_350 with rfl | ⟨x_351, lx_351, ux_351, rfl⟩
                · refine jj_i2l (v := (-1)) C dX11_next_118 (by decide) ?_
                  refine jj_ldc2 (v := 48) C dX11_next_119 jw_d6cfdd4319 ?_
                  refine jj_ldc2 (v := 57) C dX11_next_122 jw_8c7ed3b7a5 ?_
                  refine tt_call0S (rest := []) C (ct_X11_in_3 hl D cA ak) jw_2a24feddee jw_12f28ccfda jw_f96c99f44d jw_e07c9ada56 jn_X11_in rfl (jj_le rfl) (jj_le rfl) (jj_le rfl) (jj_le rfl) (jj_le rfl) dX11_next_125 rfl (fun w1 r O_352 => ?_)
                  obtain ⟨-, rfl⟩ := O_352
                  refine jj_if_eqT (tgt := 165) C dX11_next_128 (by decide) (by decide) ?_
                  refine jj_aload_n C dX11_next_165 rfl ?_
                  refine tt_getF C hok_346 jk_12 15 (by decide) jw_165232ba7c (t := (0, 0, 400)) hk0 (by decide) rfl rfl hf_266 dX11_next_166 ?_
                  refine jj_aload_n C dX11_next_169 rfl ?_
                  refine tt_get C hok_346 jk_12 16 (by decide) jw_28b46cb90c (t := (0, 0, 400)) hk0 (by decide) rfl rfl dX11_next_170 (fun v_353 hv_353 hf_354 => ?_)
                  obtain ⟨x_355, rfl, lx_355, ux_355⟩ := tt_vi hv_353
                  refine jj_icmp_ge (tgt := 186) C dX11_next_173 (by decide) (fun c_356 => ?_) (fun c_356 => ?_)
                  · have z_c_356 := jc_le (a := x_355.toInt) (b := x_8.toInt) c_356 rfl rfl
                    exact jj_vret C ⟨[], pl_345, rfl, rfl, hok_346, hfr, hfa, rfl⟩ dX11_next_186 (jj_le rfl) (jj_le rfl)
                  · have z_c_356 := jc_nle (a := x_355.toInt) (b := x_8.toInt) c_356 rfl rfl
                    refine jj_aload_n C dX11_next_176 rfl ?_
                    refine jj_dup C dX11_next_177 rfl ?_
                    refine tt_getF C hok_346 jk_12 15 (by decide) jw_165232ba7c (t := (0, 0, 400)) hk0 (by decide) rfl rfl hf_266 dX11_next_178 ?_
                    refine jj_iconst (v := 1) C dX11_next_181 (by decide) ?_
                    obtain ⟨x_357, ex_357, vx_357⟩ := tt_iadd (x := x_8) (y := (1 : Int32)) (a := x_8.toInt) rfl (b := 1) (by decide) (by omega) (by omega)
                    refine jj_iadd (v := x_357) C dX11_next_182 ex_357 ?_
                    refine rl_put C hok_346 jk_12 15 (by decide) jw_165232ba7c (t := (0, 0, 400)) hk0 (by decide) rfl rfl rfl (tt_iv (by omega) (by omega)) rfl rfl dX11_next_183 (fun pl_358 hok_359 tr hn tl => ?_)
                    replace hf_9 := tr _ _ _ (Or.inr (by decide)) hf_9
                    replace hf_354 := tr _ _ _ (Or.inr (by decide)) hf_354
                    have hf_360 := hn
                    replace hm := hm.put tr (by decide)
                    replace hfr := hfr.put hk0 tr (by decide)
                    replace hfa := hfa.all tl
                    exact jj_vret C ⟨[], pl_358, rfl, rfl, hok_359, hfr, hfa, rfl⟩ dX11_next_186 (jj_le rfl) (jj_le rfl)
                · obtain ⟨y_361, ey_361, vy_361⟩ := tt_i2l x_351
                  refine jj_i2l (v := y_361) C dX11_next_118 ey_361 ?_
                  refine jj_ldc2 (v := 48) C dX11_next_119 jw_d6cfdd4319 ?_
                  refine jj_ldc2 (v := 57) C dX11_next_122 jw_8c7ed3b7a5 ?_
                  refine tt_call0S (rest := []) C (ct_X11_in_4 hl D cA ak y_361) jw_2a24feddee jw_12f28ccfda jw_f96c99f44d jw_e07c9ada56 jn_X11_in rfl (jj_le rfl) (jj_le rfl) (jj_le rfl) (jj_le rfl) (jj_le rfl) dX11_next_125 rfl (fun w1 r O_362 => ?_)
                  rcases O_362 with ⟨c_363, -, rfl⟩ | ⟨c_364, c_365, -, rfl⟩ | ⟨c_366, c_367, -, rfl⟩
                  · have z_c_363 := jc_ltL (a := y_361.toInt) (b := 48) c_363 rfl (by decide)
                    refine jj_if_eqT (tgt := 165) C dX11_next_128 (by decide) (by decide) ?_
                    refine jj_aload_n C dX11_next_165 rfl ?_
                    refine tt_getF C hok_346 jk_12 15 (by decide) jw_165232ba7c (t := (0, 0, 400)) hk0 (by decide) rfl rfl hf_266 dX11_next_166 ?_
                    refine jj_aload_n C dX11_next_169 rfl ?_
                    refine tt_get C hok_346 jk_12 16 (by decide) jw_28b46cb90c (t := (0, 0, 400)) hk0 (by decide) rfl rfl dX11_next_170 (fun v_368 hv_368 hf_369 => ?_)
                    obtain ⟨x_370, rfl, lx_370, ux_370⟩ := tt_vi hv_368
                    refine jj_icmp_ge (tgt := 186) C dX11_next_173 (by decide) (fun c_371 => ?_) (fun c_371 => ?_)
                    · have z_c_371 := jc_le (a := x_370.toInt) (b := x_8.toInt) c_371 rfl rfl
                      exact jj_vret C ⟨[], pl_345, rfl, rfl, hok_346, hfr, hfa, rfl⟩ dX11_next_186 (jj_le rfl) (jj_le rfl)
                    · have z_c_371 := jc_nle (a := x_370.toInt) (b := x_8.toInt) c_371 rfl rfl
                      refine jj_aload_n C dX11_next_176 rfl ?_
                      refine jj_dup C dX11_next_177 rfl ?_
                      refine tt_getF C hok_346 jk_12 15 (by decide) jw_165232ba7c (t := (0, 0, 400)) hk0 (by decide) rfl rfl hf_266 dX11_next_178 ?_
                      refine jj_iconst (v := 1) C dX11_next_181 (by decide) ?_
                      obtain ⟨x_372, ex_372, vx_372⟩ := tt_iadd (x := x_8) (y := (1 : Int32)) (a := x_8.toInt) rfl (b := 1) (by decide) (by omega) (by omega)
                      refine jj_iadd (v := x_372) C dX11_next_182 ex_372 ?_
                      refine rl_put C hok_346 jk_12 15 (by decide) jw_165232ba7c (t := (0, 0, 400)) hk0 (by decide) rfl rfl rfl (tt_iv (by omega) (by omega)) rfl rfl dX11_next_183 (fun pl_373 hok_374 tr hn tl => ?_)
                      replace hf_9 := tr _ _ _ (Or.inr (by decide)) hf_9
                      replace hf_369 := tr _ _ _ (Or.inr (by decide)) hf_369
                      have hf_375 := hn
                      replace hm := hm.put tr (by decide)
                      replace hfr := hfr.put hk0 tr (by decide)
                      replace hfa := hfa.all tl
                      exact jj_vret C ⟨[], pl_373, rfl, rfl, hok_374, hfr, hfa, rfl⟩ dX11_next_186 (jj_le rfl) (jj_le rfl)
                  · have z_c_364 := jc_nltL (a := y_361.toInt) (b := 48) c_364 rfl (by decide)
                    have z_c_365 := jc_ltL (a := 57) (b := y_361.toInt) c_365 (by decide) rfl
                    refine jj_if_eqT (tgt := 165) C dX11_next_128 (by decide) (by decide) ?_
                    refine jj_aload_n C dX11_next_165 rfl ?_
                    refine tt_getF C hok_346 jk_12 15 (by decide) jw_165232ba7c (t := (0, 0, 400)) hk0 (by decide) rfl rfl hf_266 dX11_next_166 ?_
                    refine jj_aload_n C dX11_next_169 rfl ?_
                    refine tt_get C hok_346 jk_12 16 (by decide) jw_28b46cb90c (t := (0, 0, 400)) hk0 (by decide) rfl rfl dX11_next_170 (fun v_376 hv_376 hf_377 => ?_)
                    obtain ⟨x_378, rfl, lx_378, ux_378⟩ := tt_vi hv_376
                    refine jj_icmp_ge (tgt := 186) C dX11_next_173 (by decide) (fun c_379 => ?_) (fun c_379 => ?_)
                    · have z_c_379 := jc_le (a := x_378.toInt) (b := x_8.toInt) c_379 rfl rfl
                      exact jj_vret C ⟨[], pl_345, rfl, rfl, hok_346, hfr, hfa, rfl⟩ dX11_next_186 (jj_le rfl) (jj_le rfl)
                    · have z_c_379 := jc_nle (a := x_378.toInt) (b := x_8.toInt) c_379 rfl rfl
                      refine jj_aload_n C dX11_next_176 rfl ?_
                      refine jj_dup C dX11_next_177 rfl ?_
                      refine tt_getF C hok_346 jk_12 15 (by decide) jw_165232ba7c (t := (0, 0, 400)) hk0 (by decide) rfl rfl hf_266 dX11_next_178 ?_
                      refine jj_iconst (v := 1) C dX11_next_181 (by decide) ?_
                      obtain ⟨x_380, ex_380, vx_380⟩ := tt_iadd (x := x_8) (y := (1 : Int32)) (a := x_8.toInt) rfl (b := 1) (by decide) (by omega) (by omega)
                      refine jj_iadd (v := x_380) C dX11_next_182 ex_380 ?_
                      refine rl_put C hok_346 jk_12 15 (by decide) jw_165232ba7c (t := (0, 0, 400)) hk0 (by decide) rfl rfl rfl (tt_iv (by omega) (by omega)) rfl rfl dX11_next_183 (fun pl_381 hok_382 tr hn tl => ?_)
                      replace hf_9 := tr _ _ _ (Or.inr (by decide)) hf_9
                      replace hf_377 := tr _ _ _ (Or.inr (by decide)) hf_377
                      have hf_383 := hn
                      replace hm := hm.put tr (by decide)
                      replace hfr := hfr.put hk0 tr (by decide)
                      replace hfa := hfa.all tl
                      exact jj_vret C ⟨[], pl_381, rfl, rfl, hok_382, hfr, hfa, rfl⟩ dX11_next_186 (jj_le rfl) (jj_le rfl)
                  · have z_c_366 := jc_nltL (a := y_361.toInt) (b := 48) c_366 rfl (by decide)
                    have z_c_367 := jc_nltL (a := 57) (b := y_361.toInt) c_367 (by decide) rfl
                    refine jj_if_eqF (tgt := 165) C dX11_next_128 (by decide) (by decide) ?_
                    have hL_384 : ∀ (N : Nat) (pl : va_W) (x_385 : Int32), True → tt_ok rt_tk cA Kd pl → tt_fr Kd [(1, 14), (1, 15)] pl0 pl → tt_fa Kd [] pl0 pl → rl_m pl h0 aw aa at0 ai af ap → tt_at pl h0 15 (.int x_385) → (0 : Int) ≤ x_385.toInt → x_385.toInt ≤ 400 → (401 - x_385.toInt ≤ (N : Int)) → jj_J p l e (jj_rm 1 25 0 0) s m args below meth c 1 A (vx_MQ below (jj_q D A (tt_O (fun rx pl1 r => rx = [] ∧ tt_ok rt_tk cA Kd pl1 ∧ tt_fr Kd [(1, 14), (1, 15)] pl0 pl1 ∧ tt_fa Kd [] pl0 pl1 ∧ ((r = none))))) (jj_x D A (tt_OX (fun _ _ _ => False))) args s 0 0 A) (jj_X D A ([] ++ pl)) 0 0 131 [(0, .ref h0)] [] := by
                      intro NL_384
                      induction NL_384 with
                      | zero => intro pl x_385 _ hok hfr hfa hm hf_386 lx_385 ux_385 hNL_384; exfalso; omega
                      | succ NL_384 ihL_384 =>
                        intro pl x_385 _ hok hfr hfa hm hf_386 lx_385 ux_385 hNL_384
                        replace ihL_384 := fun pl x_385 h1 => ihL_384 pl x_385 trivial h1
                        refine jj_aload_n C dX11_next_131 rfl ?_
                        refine jj_aload_n C dX11_next_132 rfl ?_
                        refine tt_getF C hok jk_12 15 (by decide) jw_165232ba7c (t := (0, 0, 400)) hk0 (by decide) rfl rfl hf_386 dX11_next_133 ?_
                        obtain ⟨qc, gs, hqc⟩ := tt_recv (cx := []) hok hk0 (by decide) rfl
                        refine tt_callV (rest := []) C (rc_X11_byteAt_4afdc3 hl D cA ak x_385 hk0 hkw hka hkt hki hkf hkp (by omega) (by omega) hok hm) [] [] rfl rfl (by decide) (by decide) (by decide) qc hqc rfl rfl jw_98db775389 jw_8e26deba02 jw_8ef34ac32e jw_f96c99f44d jw_4737f96f0a jn_X11_byteAt rfl (jj_le rfl) (jj_le rfl) (jj_le rfl) (jj_le rfl) (jj_le rfl) dX11_next_136 rfl (fun _ _ _ hX => hX.elim) (fun rx pl_387 r O_391 => ?_)
                        obtain ⟨rfl, hok_388, hr_389, ha_390, hR_392⟩ := O_391
                        replace hf_386 := hr_389.at hk0 (by decide) (by decide) hf_386
                        replace hm := hm.fr hr_389 hk0 rfl
                        replace hfr := hfr.trans (hr_389.sub (by decide))
                        replace hfa := hfa.trans (ha_390.sub (by decide))
                        rcases hR_392 with rfl | ⟨x_393, lx_393, ux_393, l_394, u_395, rfl⟩
                        · refine jj_i2l (v := (-1)) C dX11_next_139 (by decide) ?_
                          refine jj_ldc2 (v := 48) C dX11_next_140 jw_d6cfdd4319 ?_
                          refine jj_ldc2 (v := 57) C dX11_next_143 jw_8c7ed3b7a5 ?_
                          refine tt_call0S (rest := []) C (ct_X11_in_3 hl D cA ak) jw_2a24feddee jw_12f28ccfda jw_f96c99f44d jw_e07c9ada56 jn_X11_in rfl (jj_le rfl) (jj_le rfl) (jj_le rfl) (jj_le rfl) (jj_le rfl) dX11_next_146 rfl (fun w1 r O_396 => ?_)
                          obtain ⟨-, rfl⟩ := O_396
                          refine jj_if_eqT (tgt := 186) C dX11_next_149 (by decide) (by decide) ?_
                          exact jj_vret C ⟨[], pl_387, rfl, rfl, hok_388, hfr, hfa, rfl⟩ dX11_next_186 (jj_le rfl) (jj_le rfl)
                        · obtain ⟨y_397, ey_397, vy_397⟩ := tt_i2l x_393
                          refine jj_i2l (v := y_397) C dX11_next_139 ey_397 ?_
                          refine jj_ldc2 (v := 48) C dX11_next_140 jw_d6cfdd4319 ?_
                          refine jj_ldc2 (v := 57) C dX11_next_143 jw_8c7ed3b7a5 ?_
                          refine tt_call0S (rest := []) C (ct_X11_in_4 hl D cA ak y_397) jw_2a24feddee jw_12f28ccfda jw_f96c99f44d jw_e07c9ada56 jn_X11_in rfl (jj_le rfl) (jj_le rfl) (jj_le rfl) (jj_le rfl) (jj_le rfl) dX11_next_146 rfl (fun w1 r O_398 => ?_)
                          rcases O_398 with ⟨c_399, -, rfl⟩ | ⟨c_400, c_401, -, rfl⟩ | ⟨c_402, c_403, -, rfl⟩
                          · have z_c_399 := jc_ltL (a := y_397.toInt) (b := 48) c_399 rfl (by decide)
                            refine jj_if_eqT (tgt := 186) C dX11_next_149 (by decide) (by decide) ?_
                            exact jj_vret C ⟨[], pl_387, rfl, rfl, hok_388, hfr, hfa, rfl⟩ dX11_next_186 (jj_le rfl) (jj_le rfl)
                          · have z_c_400 := jc_nltL (a := y_397.toInt) (b := 48) c_400 rfl (by decide)
                            have z_c_401 := jc_ltL (a := 57) (b := y_397.toInt) c_401 (by decide) rfl
                            refine jj_if_eqT (tgt := 186) C dX11_next_149 (by decide) (by decide) ?_
                            exact jj_vret C ⟨[], pl_387, rfl, rfl, hok_388, hfr, hfa, rfl⟩ dX11_next_186 (jj_le rfl) (jj_le rfl)
                          · have z_c_402 := jc_nltL (a := y_397.toInt) (b := 48) c_402 rfl (by decide)
                            have z_c_403 := jc_nltL (a := 57) (b := y_397.toInt) c_403 (by decide) rfl
                            refine jj_if_eqF (tgt := 186) C dX11_next_149 (by decide) (by decide) ?_
                            refine jj_aload_n C dX11_next_152 rfl ?_
                            refine jj_dup C dX11_next_153 rfl ?_
                            refine tt_getF C hok_388 jk_12 15 (by decide) jw_165232ba7c (t := (0, 0, 400)) hk0 (by decide) rfl rfl hf_386 dX11_next_154 ?_
                            refine jj_iconst (v := 1) C dX11_next_157 (by decide) ?_
                            obtain ⟨x_404, ex_404, vx_404⟩ := tt_iadd (x := x_385) (y := (1 : Int32)) (a := x_385.toInt) rfl (b := 1) (by decide) (by omega) (by omega)
                            refine jj_iadd (v := x_404) C dX11_next_158 ex_404 ?_
                            refine rl_put C hok_388 jk_12 15 (by decide) jw_165232ba7c (t := (0, 0, 400)) hk0 (by decide) rfl rfl rfl (tt_iv (by omega) (by omega)) rfl rfl dX11_next_159 (fun pl_405 hok_406 tr hn tl => ?_)
                            have hf_407 := hn
                            replace hm := hm.put tr (by decide)
                            replace hfr := hfr.put hk0 tr (by decide)
                            replace hfa := hfa.all tl
                            refine jj_goto (tgt := 131) C dX11_next_162 (by decide) ?_
                            exact ihL_384 pl_405 x_404 hok_406 hfr hfa hm hf_407 (by first | omega | decide | exact tt_lo _ | exact tt_hi _) (by first | omega | decide | exact tt_lo _ | exact tt_hi _) (by first | omega | decide | exact tt_lo _ | exact tt_hi _)
                    exact hL_384 _ pl_345 x_8 trivial hok_346 hfr hfa hm hf_266 (by first | omega | decide | exact tt_lo _ | exact tt_hi _) (by first | omega | decide | exact tt_lo _ | exact tt_hi _) (Int.self_le_toNat _)
              · have z_c_341 := jc_nltL (a := y_338.toInt) (b := 97) c_341 rfl (by decide)
                have z_c_342 := jc_ltL (a := 122) (b := y_338.toInt) c_342 (by decide) rfl
                refine jj_if_eqT (tgt := 110) C dX11_next_73 (by decide) (by decide) ?_
                refine jj_aload_n C dX11_next_110 rfl ?_
                refine jj_aload_n C dX11_next_111 rfl ?_
                refine tt_getF C hok_268 jk_12 15 (by decide) jw_165232ba7c (t := (0, 0, 400)) hk0 (by decide) rfl rfl hf_266 dX11_next_112 ?_
                obtain ⟨qc, gs, hqc⟩ := tt_recv (cx := []) hok_268 hk0 (by decide) rfl
                refine tt_callV (rest := []) C (rc_X11_byteAt_f5f728 hl D cA ak x_8 hk0 hkw hka hkt hki hkf hkp (by omega) (by omega) hok_268 hm) [] [] rfl rfl (by decide) (by decide) (by decide) qc hqc rfl rfl jw_98db775389 jw_8e26deba02 jw_8ef34ac32e jw_f96c99f44d jw_4737f96f0a jn_X11_byteAt rfl (jj_le rfl) (jj_le rfl) (jj_le rfl) (jj_le rfl) (jj_le rfl) dX11_next_115 rfl (fun _ _ _ hX => hX.elim) (fun rx pl_408 r O_412 => ?_)
                obtain ⟨rfl, hok_409, hr_410, ha_411, hR_413⟩ := O_412
                replace hf_9 := hr_410.at hk0 (by decide) (by decide) hf_9
                replace hf_266 := hr_410.at hk0 (by decide) (by decide) hf_266
                replace hm := hm.fr hr_410 hk0 rfl
                replace hfr := hfr.trans (hr_410.sub (by decide))
                replace hfa := hfa.trans (ha_411.sub (by decide))
                rcases hR_413 with rfl | ⟨x_414, lx_414, ux_414, rfl⟩
                · refine jj_i2l (v := (-1)) C dX11_next_118 (by decide) ?_
                  refine jj_ldc2 (v := 48) C dX11_next_119 jw_d6cfdd4319 ?_
                  refine jj_ldc2 (v := 57) C dX11_next_122 jw_8c7ed3b7a5 ?_
                  refine tt_call0S (rest := []) C (ct_X11_in_3 hl D cA ak) jw_2a24feddee jw_12f28ccfda jw_f96c99f44d jw_e07c9ada56 jn_X11_in rfl (jj_le rfl) (jj_le rfl) (jj_le rfl) (jj_le rfl) (jj_le rfl) dX11_next_125 rfl (fun w1 r O_415 => ?_)
                  obtain ⟨-, rfl⟩ := O_415
                  refine jj_if_eqT (tgt := 165) C dX11_next_128 (by decide) (by decide) ?_
                  refine jj_aload_n C dX11_next_165 rfl ?_
                  refine tt_getF C hok_409 jk_12 15 (by decide) jw_165232ba7c (t := (0, 0, 400)) hk0 (by decide) rfl rfl hf_266 dX11_next_166 ?_
                  refine jj_aload_n C dX11_next_169 rfl ?_
                  refine tt_get C hok_409 jk_12 16 (by decide) jw_28b46cb90c (t := (0, 0, 400)) hk0 (by decide) rfl rfl dX11_next_170 (fun v_416 hv_416 hf_417 => ?_)
                  obtain ⟨x_418, rfl, lx_418, ux_418⟩ := tt_vi hv_416
                  refine jj_icmp_ge (tgt := 186) C dX11_next_173 (by decide) (fun c_419 => ?_) (fun c_419 => ?_)
                  · have z_c_419 := jc_le (a := x_418.toInt) (b := x_8.toInt) c_419 rfl rfl
                    exact jj_vret C ⟨[], pl_408, rfl, rfl, hok_409, hfr, hfa, rfl⟩ dX11_next_186 (jj_le rfl) (jj_le rfl)
                  · have z_c_419 := jc_nle (a := x_418.toInt) (b := x_8.toInt) c_419 rfl rfl
                    refine jj_aload_n C dX11_next_176 rfl ?_
                    refine jj_dup C dX11_next_177 rfl ?_
                    refine tt_getF C hok_409 jk_12 15 (by decide) jw_165232ba7c (t := (0, 0, 400)) hk0 (by decide) rfl rfl hf_266 dX11_next_178 ?_
                    refine jj_iconst (v := 1) C dX11_next_181 (by decide) ?_
                    obtain ⟨x_420, ex_420, vx_420⟩ := tt_iadd (x := x_8) (y := (1 : Int32)) (a := x_8.toInt) rfl (b := 1) (by decide) (by omega) (by omega)
                    refine jj_iadd (v := x_420) C dX11_next_182 ex_420 ?_
                    refine rl_put C hok_409 jk_12 15 (by decide) jw_165232ba7c (t := (0, 0, 400)) hk0 (by decide) rfl rfl rfl (tt_iv (by omega) (by omega)) rfl rfl dX11_next_183 (fun pl_421 hok_422 tr hn tl => ?_)
                    replace hf_9 := tr _ _ _ (Or.inr (by decide)) hf_9
                    replace hf_417 := tr _ _ _ (Or.inr (by decide)) hf_417
                    have hf_423 := hn
                    replace hm := hm.put tr (by decide)
                    replace hfr := hfr.put hk0 tr (by decide)
                    replace hfa := hfa.all tl
                    exact jj_vret C ⟨[], pl_421, rfl, rfl, hok_422, hfr, hfa, rfl⟩ dX11_next_186 (jj_le rfl) (jj_le rfl)
                · obtain ⟨y_424, ey_424, vy_424⟩ := tt_i2l x_414
                  refine jj_i2l (v := y_424) C dX11_next_118 ey_424 ?_
                  refine jj_ldc2 (v := 48) C dX11_next_119 jw_d6cfdd4319 ?_
                  refine jj_ldc2 (v := 57) C dX11_next_122 jw_8c7ed3b7a5 ?_
                  refine tt_call0S (rest := []) C (ct_X11_in_4 hl D cA ak y_424) jw_2a24feddee jw_12f28ccfda jw_f96c99f44d jw_e07c9ada56 jn_X11_in rfl (jj_le rfl) (jj_le rfl) (jj_le rfl) (jj_le rfl) (jj_le rfl) dX11_next_125 rfl (fun w1 r O_425 => ?_)
                  rcases O_425 with ⟨c_426, -, rfl⟩ | ⟨c_427, c_428, -, rfl⟩ | ⟨c_429, c_430, -, rfl⟩
                  · have z_c_426 := jc_ltL (a := y_424.toInt) (b := 48) c_426 rfl (by decide)
                    refine jj_if_eqT (tgt := 165) C dX11_next_128 (by decide) (by decide) ?_
                    refine jj_aload_n C dX11_next_165 rfl ?_
                    refine tt_getF C hok_409 jk_12 15 (by decide) jw_165232ba7c (t := (0, 0, 400)) hk0 (by decide) rfl rfl hf_266 dX11_next_166 ?_
                    refine jj_aload_n C dX11_next_169 rfl ?_
                    refine tt_get C hok_409 jk_12 16 (by decide) jw_28b46cb90c (t := (0, 0, 400)) hk0 (by decide) rfl rfl dX11_next_170 (fun v_431 hv_431 hf_432 => ?_)
                    obtain ⟨x_433, rfl, lx_433, ux_433⟩ := tt_vi hv_431
                    refine jj_icmp_ge (tgt := 186) C dX11_next_173 (by decide) (fun c_434 => ?_) (fun c_434 => ?_)
                    · have z_c_434 := jc_le (a := x_433.toInt) (b := x_8.toInt) c_434 rfl rfl
                      exact jj_vret C ⟨[], pl_408, rfl, rfl, hok_409, hfr, hfa, rfl⟩ dX11_next_186 (jj_le rfl) (jj_le rfl)
                    · have z_c_434 := jc_nle (a := x_433.toInt) (b := x_8.toInt) c_434 rfl rfl
                      refine jj_aload_n C dX11_next_176 rfl ?_
                      refine jj_dup C dX11_next_177 rfl ?_
                      refine tt_getF C hok_409 jk_12 15 (by decide) jw_165232ba7c (t := (0, 0, 400)) hk0 (by decide) rfl rfl hf_266 dX11_next_178 ?_
                      refine jj_iconst (v := 1) C dX11_next_181 (by decide) ?_
                      obtain ⟨x_435, ex_435, vx_435⟩ := tt_iadd (x := x_8) (y := (1 : Int32)) (a := x_8.toInt) rfl (b := 1) (by decide) (by omega) (by omega)
                      refine jj_iadd (v := x_435) C dX11_next_182 ex_435 ?_
                      refine rl_put C hok_409 jk_12 15 (by decide) jw_165232ba7c (t := (0, 0, 400)) hk0 (by decide) rfl rfl rfl (tt_iv (by omega) (by omega)) rfl rfl dX11_next_183 (fun pl_436 hok_437 tr hn tl => ?_)
                      replace hf_9 := tr _ _ _ (Or.inr (by decide)) hf_9
                      replace hf_432 := tr _ _ _ (Or.inr (by decide)) hf_432
                      have hf_438 := hn
                      replace hm := hm.put tr (by decide)
                      replace hfr := hfr.put hk0 tr (by decide)
                      replace hfa := hfa.all tl
                      exact jj_vret C ⟨[], pl_436, rfl, rfl, hok_437, hfr, hfa, rfl⟩ dX11_next_186 (jj_le rfl) (jj_le rfl)
                  · have z_c_427 := jc_nltL (a := y_424.toInt) (b := 48) c_427 rfl (by decide)
                    have z_c_428 := jc_ltL (a := 57) (b := y_424.toInt) c_428 (by decide) rfl
                    refine jj_if_eqT (tgt := 165) C dX11_next_128 (by decide) (by decide) ?_
                    refine jj_aload_n C dX11_next_165 rfl ?_
                    refine tt_getF C hok_409 jk_12 15 (by decide) jw_165232ba7c (t := (0, 0, 400)) hk0 (by decide) rfl rfl hf_266 dX11_next_166 ?_
                    refine jj_aload_n C dX11_next_169 rfl ?_
                    refine tt_get C hok_409 jk_12 16 (by decide) jw_28b46cb90c (t := (0, 0, 400)) hk0 (by decide) rfl rfl dX11_next_170 (fun v_439 hv_439 hf_440 => ?_)
                    obtain ⟨x_441, rfl, lx_441, ux_441⟩ := tt_vi hv_439
                    refine jj_icmp_ge (tgt := 186) C dX11_next_173 (by decide) (fun c_442 => ?_) (fun c_442 => ?_)
                    · have z_c_442 := jc_le (a := x_441.toInt) (b := x_8.toInt) c_442 rfl rfl
                      exact jj_vret C ⟨[], pl_408, rfl, rfl, hok_409, hfr, hfa, rfl⟩ dX11_next_186 (jj_le rfl) (jj_le rfl)
                    · have z_c_442 := jc_nle (a := x_441.toInt) (b := x_8.toInt) c_442 rfl rfl
                      refine jj_aload_n C dX11_next_176 rfl ?_
                      refine jj_dup C dX11_next_177 rfl ?_
                      refine tt_getF C hok_409 jk_12 15 (by decide) jw_165232ba7c (t := (0, 0, 400)) hk0 (by decide) rfl rfl hf_266 dX11_next_178 ?_
                      refine jj_iconst (v := 1) C dX11_next_181 (by decide) ?_
                      obtain ⟨x_443, ex_443, vx_443⟩ := tt_iadd (x := x_8) (y := (1 : Int32)) (a := x_8.toInt) rfl (b := 1) (by decide) (by omega) (by omega)
                      refine jj_iadd (v := x_443) C dX11_next_182 ex_443 ?_
                      refine rl_put C hok_409 jk_12 15 (by decide) jw_165232ba7c (t := (0, 0, 400)) hk0 (by decide) rfl rfl rfl (tt_iv (by omega) (by omega)) rfl rfl dX11_next_183 (fun pl_444 hok_445 tr hn tl => ?_)
                      replace hf_9 := tr _ _ _ (Or.inr (by decide)) hf_9
                      replace hf_440 := tr _ _ _ (Or.inr (by decide)) hf_440
                      have hf_446 := hn
                      replace hm := hm.put tr (by decide)
                      replace hfr := hfr.put hk0 tr (by decide)
                      replace hfa := hfa.all tl
                      exact jj_vret C ⟨[], pl_444, rfl, rfl, hok_445, hfr, hfa, rfl⟩ dX11_next_186 (jj_le rfl) (jj_le rfl)
                  · have z_c_429 := jc_nltL (a := y_424.toInt) (b := 48) c_429 rfl (by decide)
                    have z_c_430 := jc_nltL (a := 57) (b := y_424.toInt) c_430 (by decide) rfl
                    refine jj_if_eqF (tgt := 165) C dX11_next_128 (by decide) (by decide) ?_
                    have hL_447 : ∀ (N : Nat) (pl : va_W) (x_448 : Int32), True → tt_ok rt_tk cA Kd pl → tt_fr Kd [(1, 14), (1, 15)] pl0 pl → tt_fa Kd [] pl0 pl → rl_m pl h0 aw aa at0 ai af ap → tt_at pl h0 15 (.int x_448) → (0 : Int) ≤ x_448.toInt → x_448.toInt ≤ 400 → (401 - x_448.toInt ≤ (N : Int)) → jj_J p l e (jj_rm 1 25 0 0) s m args below meth c 1 A (vx_MQ below (jj_q D A (tt_O (fun rx pl1 r => rx = [] ∧ tt_ok rt_tk cA Kd pl1 ∧ tt_fr Kd [(1, 14), (1, 15)] pl0 pl1 ∧ tt_fa Kd [] pl0 pl1 ∧ ((r = none))))) (jj_x D A (tt_OX (fun _ _ _ => False))) args s 0 0 A) (jj_X D A ([] ++ pl)) 0 0 131 [(0, .ref h0)] [] := by
                      intro NL_447
                      induction NL_447 with
                      | zero => intro pl x_448 _ hok hfr hfa hm hf_449 lx_448 ux_448 hNL_447; exfalso; omega
                      | succ NL_447 ihL_447 =>
                        intro pl x_448 _ hok hfr hfa hm hf_449 lx_448 ux_448 hNL_447
                        replace ihL_447 := fun pl x_448 h1 => ihL_447 pl x_448 trivial h1
                        refine jj_aload_n C dX11_next_131 rfl ?_
                        refine jj_aload_n C dX11_next_132 rfl ?_
                        refine tt_getF C hok jk_12 15 (by decide) jw_165232ba7c (t := (0, 0, 400)) hk0 (by decide) rfl rfl hf_449 dX11_next_133 ?_
                        obtain ⟨qc, gs, hqc⟩ := tt_recv (cx := []) hok hk0 (by decide) rfl
                        refine tt_callV (rest := []) C (rc_X11_byteAt_4afdc3 hl D cA ak x_448 hk0 hkw hka hkt hki hkf hkp (by omega) (by omega) hok hm) [] [] rfl rfl (by decide) (by decide) (by decide) qc hqc rfl rfl jw_98db775389 jw_8e26deba02 jw_8ef34ac32e jw_f96c99f44d jw_4737f96f0a jn_X11_byteAt rfl (jj_le rfl) (jj_le rfl) (jj_le rfl) (jj_le rfl) (jj_le rfl) dX11_next_136 rfl (fun _ _ _ hX => hX.elim) (fun rx pl_450 r O_454 => ?_)
                        obtain ⟨rfl, hok_451, hr_452, ha_453, hR_455⟩ := O_454
                        replace hf_449 := hr_452.at hk0 (by decide) (by decide) hf_449
                        replace hm := hm.fr hr_452 hk0 rfl
                        replace hfr := hfr.trans (hr_452.sub (by decide))
                        replace hfa := hfa.trans (ha_453.sub (by decide))
                        rcases hR_455 with rfl | ⟨x_456, lx_456, ux_456, l_457, u_458, rfl⟩
                        · refine jj_i2l (v := (-1)) C dX11_next_139 (by decide) ?_
                          refine jj_ldc2 (v := 48) C dX11_next_140 jw_d6cfdd4319 ?_
                          refine jj_ldc2 (v := 57) C dX11_next_143 jw_8c7ed3b7a5 ?_
                          refine tt_call0S (rest := []) C (ct_X11_in_3 hl D cA ak) jw_2a24feddee jw_12f28ccfda jw_f96c99f44d jw_e07c9ada56 jn_X11_in rfl (jj_le rfl) (jj_le rfl) (jj_le rfl) (jj_le rfl) (jj_le rfl) dX11_next_146 rfl (fun w1 r O_459 => ?_)
                          obtain ⟨-, rfl⟩ := O_459
                          refine jj_if_eqT (tgt := 186) C dX11_next_149 (by decide) (by decide) ?_
                          exact jj_vret C ⟨[], pl_450, rfl, rfl, hok_451, hfr, hfa, rfl⟩ dX11_next_186 (jj_le rfl) (jj_le rfl)
                        · obtain ⟨y_460, ey_460, vy_460⟩ := tt_i2l x_456
                          refine jj_i2l (v := y_460) C dX11_next_139 ey_460 ?_
                          refine jj_ldc2 (v := 48) C dX11_next_140 jw_d6cfdd4319 ?_
                          refine jj_ldc2 (v := 57) C dX11_next_143 jw_8c7ed3b7a5 ?_
                          refine tt_call0S (rest := []) C (ct_X11_in_4 hl D cA ak y_460) jw_2a24feddee jw_12f28ccfda jw_f96c99f44d jw_e07c9ada56 jn_X11_in rfl (jj_le rfl) (jj_le rfl) (jj_le rfl) (jj_le rfl) (jj_le rfl) dX11_next_146 rfl (fun w1 r O_461 => ?_)
                          rcases O_461 with ⟨c_462, -, rfl⟩ | ⟨c_463, c_464, -, rfl⟩ | ⟨c_465, c_466, -, rfl⟩
                          · have z_c_462 := jc_ltL (a := y_460.toInt) (b := 48) c_462 rfl (by decide)
                            refine jj_if_eqT (tgt := 186) C dX11_next_149 (by decide) (by decide) ?_
                            exact jj_vret C ⟨[], pl_450, rfl, rfl, hok_451, hfr, hfa, rfl⟩ dX11_next_186 (jj_le rfl) (jj_le rfl)
                          · have z_c_463 := jc_nltL (a := y_460.toInt) (b := 48) c_463 rfl (by decide)
                            have z_c_464 := jc_ltL (a := 57) (b := y_460.toInt) c_464 (by decide) rfl
                            refine jj_if_eqT (tgt := 186) C dX11_next_149 (by decide) (by decide) ?_
                            exact jj_vret C ⟨[], pl_450, rfl, rfl, hok_451, hfr, hfa, rfl⟩ dX11_next_186 (jj_le rfl) (jj_le rfl)
                          · have z_c_465 := jc_nltL (a := y_460.toInt) (b := 48) c_465 rfl (by decide)
                            have z_c_466 := jc_nltL (a := 57) (b := y_460.toInt) c_466 (by decide) rfl
                            refine jj_if_eqF (tgt := 186) C dX11_next_149 (by decide) (by decide) ?_
                            refine jj_aload_n C dX11_next_152 rfl ?_
                            refine jj_dup C dX11_next_153 rfl ?_
                            refine tt_getF C hok_451 jk_12 15 (by decide) jw_165232ba7c (t := (0, 0, 400)) hk0 (by decide) rfl rfl hf_449 dX11_next_154 ?_
                            refine jj_iconst (v := 1) C dX11_next_157 (by decide) ?_
                            obtain ⟨x_467, ex_467, vx_467⟩ := tt_iadd (x := x_448) (y := (1 : Int32)) (a := x_448.toInt) rfl (b := 1) (by decide) (by omega) (by omega)
                            refine jj_iadd (v := x_467) C dX11_next_158 ex_467 ?_
                            refine rl_put C hok_451 jk_12 15 (by decide) jw_165232ba7c (t := (0, 0, 400)) hk0 (by decide) rfl rfl rfl (tt_iv (by omega) (by omega)) rfl rfl dX11_next_159 (fun pl_468 hok_469 tr hn tl => ?_)
                            have hf_470 := hn
                            replace hm := hm.put tr (by decide)
                            replace hfr := hfr.put hk0 tr (by decide)
                            replace hfa := hfa.all tl
                            refine jj_goto (tgt := 131) C dX11_next_162 (by decide) ?_
                            exact ihL_447 pl_468 x_467 hok_469 hfr hfa hm hf_470 (by first | omega | decide | exact tt_lo _ | exact tt_hi _) (by first | omega | decide | exact tt_lo _ | exact tt_hi _) (by first | omega | decide | exact tt_lo _ | exact tt_hi _)
                    exact hL_447 _ pl_408 x_8 trivial hok_409 hfr hfa hm hf_266 (by first | omega | decide | exact tt_lo _ | exact tt_hi _) (by first | omega | decide | exact tt_lo _ | exact tt_hi _) (Int.self_le_toNat _)
              · have z_c_343 := jc_nltL (a := y_338.toInt) (b := 97) c_343 rfl (by decide)
                have z_c_344 := jc_nltL (a := 122) (b := y_338.toInt) c_344 (by decide) rfl
                refine jj_if_eqF (tgt := 110) C dX11_next_73 (by decide) (by decide) ?_
                have hL_471 : ∀ (N : Nat) (pl : va_W) (x_472 : Int32), True → tt_ok rt_tk cA Kd pl → tt_fr Kd [(1, 14), (1, 15)] pl0 pl → tt_fa Kd [] pl0 pl → rl_m pl h0 aw aa at0 ai af ap → tt_at pl h0 15 (.int x_472) → (0 : Int) ≤ x_472.toInt → x_472.toInt ≤ 400 → (401 - x_472.toInt ≤ (N : Int)) → jj_J p l e (jj_rm 1 25 0 0) s m args below meth c 1 A (vx_MQ below (jj_q D A (tt_O (fun rx pl1 r => rx = [] ∧ tt_ok rt_tk cA Kd pl1 ∧ tt_fr Kd [(1, 14), (1, 15)] pl0 pl1 ∧ tt_fa Kd [] pl0 pl1 ∧ ((r = none))))) (jj_x D A (tt_OX (fun _ _ _ => False))) args s 0 0 A) (jj_X D A ([] ++ pl)) 0 0 76 [(0, .ref h0)] [] := by
                  intro NL_471
                  induction NL_471 with
                  | zero => intro pl x_472 _ hok hfr hfa hm hf_473 lx_472 ux_472 hNL_471; exfalso; omega
                  | succ NL_471 ihL_471 =>
                    intro pl x_472 _ hok hfr hfa hm hf_473 lx_472 ux_472 hNL_471
                    replace ihL_471 := fun pl x_472 h1 => ihL_471 pl x_472 trivial h1
                    refine jj_aload_n C dX11_next_76 rfl ?_
                    refine jj_aload_n C dX11_next_77 rfl ?_
                    refine tt_getF C hok jk_12 15 (by decide) jw_165232ba7c (t := (0, 0, 400)) hk0 (by decide) rfl rfl hf_473 dX11_next_78 ?_
                    obtain ⟨qc, gs, hqc⟩ := tt_recv (cx := []) hok hk0 (by decide) rfl
                    refine tt_callV (rest := []) C (rc_X11_byteAt_4afdc3 hl D cA ak x_472 hk0 hkw hka hkt hki hkf hkp (by omega) (by omega) hok hm) [] [] rfl rfl (by decide) (by decide) (by decide) qc hqc rfl rfl jw_98db775389 jw_8e26deba02 jw_8ef34ac32e jw_f96c99f44d jw_4737f96f0a jn_X11_byteAt rfl (jj_le rfl) (jj_le rfl) (jj_le rfl) (jj_le rfl) (jj_le rfl) dX11_next_81 rfl (fun _ _ _ hX => hX.elim) (fun rx pl_474 r O_478 => ?_)
                    obtain ⟨rfl, hok_475, hr_476, ha_477, hR_479⟩ := O_478
                    replace hf_473 := hr_476.at hk0 (by decide) (by decide) hf_473
                    replace hm := hm.fr hr_476 hk0 rfl
                    replace hfr := hfr.trans (hr_476.sub (by decide))
                    replace hfa := hfa.trans (ha_477.sub (by decide))
                    rcases hR_479 with rfl | ⟨x_480, lx_480, ux_480, l_481, u_482, rfl⟩
                    · refine jj_i2l (v := (-1)) C dX11_next_84 (by decide) ?_
                      refine jj_ldc2 (v := 97) C dX11_next_85 jw_39d46451b9 ?_
                      refine jj_ldc2 (v := 122) C dX11_next_88 jw_33d5fc8685 ?_
                      refine tt_call0S (rest := []) C (ct_X11_in_2 hl D cA ak) jw_2a24feddee jw_12f28ccfda jw_f96c99f44d jw_e07c9ada56 jn_X11_in rfl (jj_le rfl) (jj_le rfl) (jj_le rfl) (jj_le rfl) (jj_le rfl) dX11_next_91 rfl (fun w1 r O_483 => ?_)
                      obtain ⟨-, rfl⟩ := O_483
                      refine jj_if_eqT (tgt := 186) C dX11_next_94 (by decide) (by decide) ?_
                      exact jj_vret C ⟨[], pl_474, rfl, rfl, hok_475, hfr, hfa, rfl⟩ dX11_next_186 (jj_le rfl) (jj_le rfl)
                    · obtain ⟨y_484, ey_484, vy_484⟩ := tt_i2l x_480
                      refine jj_i2l (v := y_484) C dX11_next_84 ey_484 ?_
                      refine jj_ldc2 (v := 97) C dX11_next_85 jw_39d46451b9 ?_
                      refine jj_ldc2 (v := 122) C dX11_next_88 jw_33d5fc8685 ?_
                      refine tt_call0S (rest := []) C (ct_X11_in_5 hl D cA ak y_484) jw_2a24feddee jw_12f28ccfda jw_f96c99f44d jw_e07c9ada56 jn_X11_in rfl (jj_le rfl) (jj_le rfl) (jj_le rfl) (jj_le rfl) (jj_le rfl) dX11_next_91 rfl (fun w1 r O_485 => ?_)
                      rcases O_485 with ⟨c_486, -, rfl⟩ | ⟨c_487, c_488, -, rfl⟩ | ⟨c_489, c_490, -, rfl⟩
                      · have z_c_486 := jc_ltL (a := y_484.toInt) (b := 97) c_486 rfl (by decide)
                        refine jj_if_eqT (tgt := 186) C dX11_next_94 (by decide) (by decide) ?_
                        exact jj_vret C ⟨[], pl_474, rfl, rfl, hok_475, hfr, hfa, rfl⟩ dX11_next_186 (jj_le rfl) (jj_le rfl)
                      · have z_c_487 := jc_nltL (a := y_484.toInt) (b := 97) c_487 rfl (by decide)
                        have z_c_488 := jc_ltL (a := 122) (b := y_484.toInt) c_488 (by decide) rfl
                        refine jj_if_eqT (tgt := 186) C dX11_next_94 (by decide) (by decide) ?_
                        exact jj_vret C ⟨[], pl_474, rfl, rfl, hok_475, hfr, hfa, rfl⟩ dX11_next_186 (jj_le rfl) (jj_le rfl)
                      · have z_c_489 := jc_nltL (a := y_484.toInt) (b := 97) c_489 rfl (by decide)
                        have z_c_490 := jc_nltL (a := 122) (b := y_484.toInt) c_490 (by decide) rfl
                        refine jj_if_eqF (tgt := 186) C dX11_next_94 (by decide) (by decide) ?_
                        refine jj_aload_n C dX11_next_97 rfl ?_
                        refine jj_dup C dX11_next_98 rfl ?_
                        refine tt_getF C hok_475 jk_12 15 (by decide) jw_165232ba7c (t := (0, 0, 400)) hk0 (by decide) rfl rfl hf_473 dX11_next_99 ?_
                        refine jj_iconst (v := 1) C dX11_next_102 (by decide) ?_
                        obtain ⟨x_491, ex_491, vx_491⟩ := tt_iadd (x := x_472) (y := (1 : Int32)) (a := x_472.toInt) rfl (b := 1) (by decide) (by omega) (by omega)
                        refine jj_iadd (v := x_491) C dX11_next_103 ex_491 ?_
                        refine rl_put C hok_475 jk_12 15 (by decide) jw_165232ba7c (t := (0, 0, 400)) hk0 (by decide) rfl rfl rfl (tt_iv (by omega) (by omega)) rfl rfl dX11_next_104 (fun pl_492 hok_493 tr hn tl => ?_)
                        have hf_494 := hn
                        replace hm := hm.put tr (by decide)
                        replace hfr := hfr.put hk0 tr (by decide)
                        replace hfa := hfa.all tl
                        refine jj_goto (tgt := 76) C dX11_next_107 (by decide) ?_
                        exact ihL_471 pl_492 x_491 hok_493 hfr hfa hm hf_494 (by first | omega | decide | exact tt_lo _ | exact tt_hi _) (by first | omega | decide | exact tt_lo _ | exact tt_hi _) (by first | omega | decide | exact tt_lo _ | exact tt_hi _)
                exact hL_471 _ pl_267 x_8 trivial hok_268 hfr hfa hm hf_266 (by first | omega | decide | exact tt_lo _ | exact tt_hi _) (by first | omega | decide | exact tt_lo _ | exact tt_hi _) (Int.self_le_toNat _)
          · have z_c_263 := jc_eq (a := x_25.toInt) (b := 10) c_263 rfl (by decide)
            refine jj_aload_n C dX11_next_34 rfl ?_
            refine jj_dup C dX11_next_35 rfl ?_
            refine tt_getF C hok_20 jk_12 14 (by decide) jw_6446e1fd81 (t := (0, 0, 400)) hk0 (by decide) rfl rfl hf_9 dX11_next_36 ?_
            refine jj_iconst (v := 1) C dX11_next_39 (by decide) ?_
            obtain ⟨x_495, ex_495, vx_495⟩ := tt_iadd (x := x_8) (y := (1 : Int32)) (a := x_8.toInt) rfl (b := 1) (by decide) (by omega) (by omega)
            refine jj_iadd (v := x_495) C dX11_next_40 ex_495 ?_
            refine rl_put C hok_20 jk_12 14 (by decide) jw_6446e1fd81 (t := (0, 0, 400)) hk0 (by decide) rfl rfl rfl (tt_iv (by omega) (by omega)) rfl rfl dX11_next_41 (fun pl_496 hok_497 tr hn tl => ?_)
            have hf_498 := hn
            replace hm := hm.put tr (by decide)
            replace hfr := hfr.put hk0 tr (by decide)
            replace hfa := hfa.all tl
            refine jj_goto (tgt := 8) C dX11_next_44 (by decide) ?_
            exact ihL_7 pl_496 x_495 hok_497 hfr hfa hm hf_498 (by first | omega | decide | exact tt_lo _ | exact tt_hi _) (by first | omega | decide | exact tt_lo _ | exact tt_hi _) (by first | omega | decide | exact tt_lo _ | exact tt_hi _)
      · refine jj_bipush (v := 32) C dX11_next_16 (by decide) ?_
        refine jj_icmp_eq (tgt := 34) C dX11_next_18 (by decide) (fun c_499 => ?_) (fun c_499 => ?_)
        · have z_c_499 := jc_eq (a := x_16.toInt) (b := 32) c_499 rfl (by decide)
          refine jj_aload_n C dX11_next_34 rfl ?_
          refine jj_dup C dX11_next_35 rfl ?_
          refine tt_getF C hok_11 jk_12 14 (by decide) jw_6446e1fd81 (t := (0, 0, 400)) hk0 (by decide) rfl rfl hf_9 dX11_next_36 ?_
          refine jj_iconst (v := 1) C dX11_next_39 (by decide) ?_
          obtain ⟨x_500, ex_500, vx_500⟩ := tt_iadd (x := x_8) (y := (1 : Int32)) (a := x_8.toInt) rfl (b := 1) (by decide) (by omega) (by omega)
          refine jj_iadd (v := x_500) C dX11_next_40 ex_500 ?_
          refine rl_put C hok_11 jk_12 14 (by decide) jw_6446e1fd81 (t := (0, 0, 400)) hk0 (by decide) rfl rfl rfl (tt_iv (by omega) (by omega)) rfl rfl dX11_next_41 (fun pl_501 hok_502 tr hn tl => ?_)
          have hf_503 := hn
          replace hm := hm.put tr (by decide)
          replace hfr := hfr.put hk0 tr (by decide)
          replace hfa := hfa.all tl
          refine jj_goto (tgt := 8) C dX11_next_44 (by decide) ?_
          exact ihL_7 pl_501 x_500 hok_502 hfr hfa hm hf_503 (by first | omega | decide | exact tt_lo _ | exact tt_hi _) (by first | omega | decide | exact tt_lo _ | exact tt_hi _) (by first | omega | decide | exact tt_lo _ | exact tt_hi _)
        · have z_c_499 := jc_neq (a := x_16.toInt) (b := 32) c_499 rfl (by decide)
          refine jj_aload_n C dX11_next_21 rfl ?_
          refine jj_aload_n C dX11_next_22 rfl ?_
          refine tt_getF C hok_11 jk_12 14 (by decide) jw_6446e1fd81 (t := (0, 0, 400)) hk0 (by decide) rfl rfl hf_9 dX11_next_23 ?_
          obtain ⟨qc, gs, hqc⟩ := tt_recv (cx := []) hok_11 hk0 (by decide) rfl
          refine tt_callV (rest := []) C (rc_X11_byteAt_f5f728 hl D cA ak x_8 hk0 hkw hka hkt hki hkf hkp (by omega) (by omega) hok_11 hm) [] [] rfl rfl (by decide) (by decide) (by decide) qc hqc rfl rfl jw_98db775389 jw_8e26deba02 jw_8ef34ac32e jw_f96c99f44d jw_4737f96f0a jn_X11_byteAt rfl (jj_le rfl) (jj_le rfl) (jj_le rfl) (jj_le rfl) (jj_le rfl) dX11_next_26 rfl (fun _ _ _ hX => hX.elim) (fun rx pl_504 r O_508 => ?_)
          obtain ⟨rfl, hok_505, hr_506, ha_507, hR_509⟩ := O_508
          replace hf_9 := hr_506.at hk0 (by decide) (by decide) hf_9
          replace hm := hm.fr hr_506 hk0 rfl
          replace hfr := hfr.trans (hr_506.sub (by decide))
          replace hfa := hfa.trans (ha_507.sub (by decide))
          rcases hR_509 with rfl | ⟨x_510, lx_510, ux_510, rfl⟩
          · refine jj_bipush (v := 10) C dX11_next_29 (by decide) ?_
            refine jj_icmp_neT (tgt := 47) C dX11_next_31 (by decide) (by decide) ?_
            refine jj_aload_n C dX11_next_47 rfl ?_
            refine jj_aload_n C dX11_next_48 rfl ?_
            refine tt_getF C hok_505 jk_12 14 (by decide) jw_6446e1fd81 (t := (0, 0, 400)) hk0 (by decide) rfl rfl hf_9 dX11_next_49 ?_
            refine rl_put C hok_505 jk_12 15 (by decide) jw_165232ba7c (t := (0, 0, 400)) hk0 (by decide) rfl rfl rfl (tt_iv (by omega) (by omega)) rfl rfl dX11_next_52 (fun pl_511 hok_512 tr hn tl => ?_)
            replace hf_9 := tr _ _ _ (Or.inr (by decide)) hf_9
            have hf_513 := hn
            replace hm := hm.put tr (by decide)
            replace hfr := hfr.put hk0 tr (by decide)
            replace hfa := hfa.all tl
            refine jj_aload_n C dX11_next_55 rfl ?_
            refine jj_aload_n C dX11_next_56 rfl ?_
            refine tt_getF C hok_512 jk_12 15 (by decide) jw_165232ba7c (t := (0, 0, 400)) hk0 (by decide) rfl rfl hf_513 dX11_next_57 ?_
            obtain ⟨qc, gs, hqc⟩ := tt_recv (cx := []) hok_512 hk0 (by decide) rfl
            refine tt_callV (rest := []) C (rc_X11_byteAt_f5f728 hl D cA ak x_8 hk0 hkw hka hkt hki hkf hkp (by omega) (by omega) hok_512 hm) [] [] rfl rfl (by decide) (by decide) (by decide) qc hqc rfl rfl jw_98db775389 jw_8e26deba02 jw_8ef34ac32e jw_f96c99f44d jw_4737f96f0a jn_X11_byteAt rfl (jj_le rfl) (jj_le rfl) (jj_le rfl) (jj_le rfl) (jj_le rfl) dX11_next_60 rfl (fun _ _ _ hX => hX.elim) (fun rx pl_514 r O_518 => ?_)
            obtain ⟨rfl, hok_515, hr_516, ha_517, hR_519⟩ := O_518
            replace hf_9 := hr_516.at hk0 (by decide) (by decide) hf_9
            replace hf_513 := hr_516.at hk0 (by decide) (by decide) hf_513
            replace hm := hm.fr hr_516 hk0 rfl
            replace hfr := hfr.trans (hr_516.sub (by decide))
            replace hfa := hfa.trans (ha_517.sub (by decide))
            rcases hR_519 with rfl | ⟨x_520, lx_520, ux_520, rfl⟩
            · refine jj_i2l (v := (-1)) C dX11_next_63 (by decide) ?_
              refine jj_ldc2 (v := 97) C dX11_next_64 jw_39d46451b9 ?_
              refine jj_ldc2 (v := 122) C dX11_next_67 jw_33d5fc8685 ?_
              refine tt_call0S (rest := []) C (ct_X11_in_2 hl D cA ak) jw_2a24feddee jw_12f28ccfda jw_f96c99f44d jw_e07c9ada56 jn_X11_in rfl (jj_le rfl) (jj_le rfl) (jj_le rfl) (jj_le rfl) (jj_le rfl) dX11_next_70 rfl (fun w1 r O_521 => ?_)
              obtain ⟨-, rfl⟩ := O_521
              refine jj_if_eqT (tgt := 110) C dX11_next_73 (by decide) (by decide) ?_
              refine jj_aload_n C dX11_next_110 rfl ?_
              refine jj_aload_n C dX11_next_111 rfl ?_
              refine tt_getF C hok_515 jk_12 15 (by decide) jw_165232ba7c (t := (0, 0, 400)) hk0 (by decide) rfl rfl hf_513 dX11_next_112 ?_
              obtain ⟨qc, gs, hqc⟩ := tt_recv (cx := []) hok_515 hk0 (by decide) rfl
              refine tt_callV (rest := []) C (rc_X11_byteAt_f5f728 hl D cA ak x_8 hk0 hkw hka hkt hki hkf hkp (by omega) (by omega) hok_515 hm) [] [] rfl rfl (by decide) (by decide) (by decide) qc hqc rfl rfl jw_98db775389 jw_8e26deba02 jw_8ef34ac32e jw_f96c99f44d jw_4737f96f0a jn_X11_byteAt rfl (jj_le rfl) (jj_le rfl) (jj_le rfl) (jj_le rfl) (jj_le rfl) dX11_next_115 rfl (fun _ _ _ hX => hX.elim) (fun rx pl_522 r O_526 => ?_)
              obtain ⟨rfl, hok_523, hr_524, ha_525, hR_527⟩ := O_526
              replace hf_9 := hr_524.at hk0 (by decide) (by decide) hf_9
              replace hf_513 := hr_524.at hk0 (by decide) (by decide) hf_513
              replace hm := hm.fr hr_524 hk0 rfl
              replace hfr := hfr.trans (hr_524.sub (by decide))
              replace hfa := hfa.trans (ha_525.sub (by decide))
              rcases hR_527 with rfl | ⟨x_528, lx_528, ux_528, rfl⟩
              · refine jj_i2l (v := (-1)) C dX11_next_118 (by decide) ?_
                refine jj_ldc2 (v := 48) C dX11_next_119 jw_d6cfdd4319 ?_
                refine jj_ldc2 (v := 57) C dX11_next_122 jw_8c7ed3b7a5 ?_
                refine tt_call0S (rest := []) C (ct_X11_in_3 hl D cA ak) jw_2a24feddee jw_12f28ccfda jw_f96c99f44d jw_e07c9ada56 jn_X11_in rfl (jj_le rfl) (jj_le rfl) (jj_le rfl) (jj_le rfl) (jj_le rfl) dX11_next_125 rfl (fun w1 r O_529 => ?_)
                obtain ⟨-, rfl⟩ := O_529
                refine jj_if_eqT (tgt := 165) C dX11_next_128 (by decide) (by decide) ?_
                refine jj_aload_n C dX11_next_165 rfl ?_
                refine tt_getF C hok_523 jk_12 15 (by decide) jw_165232ba7c (t := (0, 0, 400)) hk0 (by decide) rfl rfl hf_513 dX11_next_166 ?_
                refine jj_aload_n C dX11_next_169 rfl ?_
                refine tt_get C hok_523 jk_12 16 (by decide) jw_28b46cb90c (t := (0, 0, 400)) hk0 (by decide) rfl rfl dX11_next_170 (fun v_530 hv_530 hf_531 => ?_)
                obtain ⟨x_532, rfl, lx_532, ux_532⟩ := tt_vi hv_530
                refine jj_icmp_ge (tgt := 186) C dX11_next_173 (by decide) (fun c_533 => ?_) (fun c_533 => ?_)
                · have z_c_533 := jc_le (a := x_532.toInt) (b := x_8.toInt) c_533 rfl rfl
                  exact jj_vret C ⟨[], pl_522, rfl, rfl, hok_523, hfr, hfa, rfl⟩ dX11_next_186 (jj_le rfl) (jj_le rfl)
                · have z_c_533 := jc_nle (a := x_532.toInt) (b := x_8.toInt) c_533 rfl rfl
                  refine jj_aload_n C dX11_next_176 rfl ?_
                  refine jj_dup C dX11_next_177 rfl ?_
                  refine tt_getF C hok_523 jk_12 15 (by decide) jw_165232ba7c (t := (0, 0, 400)) hk0 (by decide) rfl rfl hf_513 dX11_next_178 ?_
                  refine jj_iconst (v := 1) C dX11_next_181 (by decide) ?_
                  obtain ⟨x_534, ex_534, vx_534⟩ := tt_iadd (x := x_8) (y := (1 : Int32)) (a := x_8.toInt) rfl (b := 1) (by decide) (by omega) (by omega)
                  refine jj_iadd (v := x_534) C dX11_next_182 ex_534 ?_
                  refine rl_put C hok_523 jk_12 15 (by decide) jw_165232ba7c (t := (0, 0, 400)) hk0 (by decide) rfl rfl rfl (tt_iv (by omega) (by omega)) rfl rfl dX11_next_183 (fun pl_535 hok_536 tr hn tl => ?_)
                  replace hf_9 := tr _ _ _ (Or.inr (by decide)) hf_9
                  replace hf_531 := tr _ _ _ (Or.inr (by decide)) hf_531
                  have hf_537 := hn
                  replace hm := hm.put tr (by decide)
                  replace hfr := hfr.put hk0 tr (by decide)
                  replace hfa := hfa.all tl
                  exact jj_vret C ⟨[], pl_535, rfl, rfl, hok_536, hfr, hfa, rfl⟩ dX11_next_186 (jj_le rfl) (jj_le rfl)
              · obtain ⟨y_538, ey_538, vy_538⟩ := tt_i2l x_528
                refine jj_i2l (v := y_538) C dX11_next_118 ey_538 ?_
                refine jj_ldc2 (v := 48) C dX11_next_119 jw_d6cfdd4319 ?_
                refine jj_ldc2 (v := 57) C dX11_next_122 jw_8c7ed3b7a5 ?_
                refine tt_call0S (rest := []) C (ct_X11_in_4 hl D cA ak y_538) jw_2a24feddee jw_12f28ccfda jw_f96c99f44d jw_e07c9ada56 jn_X11_in rfl (jj_le rfl) (jj_le rfl) (jj_le rfl) (jj_le rfl) (jj_le rfl) dX11_next_125 rfl (fun w1 r O_539 => ?_)
                rcases O_539 with ⟨c_540, -, rfl⟩ | ⟨c_541, c_542, -, rfl⟩ | ⟨c_543, c_544, -, rfl⟩
                · have z_c_540 := jc_ltL (a := y_538.toInt) (b := 48) c_540 rfl (by decide)
                  refine jj_if_eqT (tgt := 165) C dX11_next_128 (by decide) (by decide) ?_
                  refine jj_aload_n C dX11_next_165 rfl ?_
                  refine tt_getF C hok_523 jk_12 15 (by decide) jw_165232ba7c (t := (0, 0, 400)) hk0 (by decide) rfl rfl hf_513 dX11_next_166 ?_
                  refine jj_aload_n C dX11_next_169 rfl ?_
                  refine tt_get C hok_523 jk_12 16 (by decide) jw_28b46cb90c (t := (0, 0, 400)) hk0 (by decide) rfl rfl dX11_next_170 (fun v_545 hv_545 hf_546 => ?_)
                  obtain ⟨x_547, rfl, lx_547, ux_547⟩ := tt_vi hv_545
                  refine jj_icmp_ge (tgt := 186) C dX11_next_173 (by decide) (fun c_548 => ?_) (fun c_548 => ?_)
                  · have z_c_548 := jc_le (a := x_547.toInt) (b := x_8.toInt) c_548 rfl rfl
                    exact jj_vret C ⟨[], pl_522, rfl, rfl, hok_523, hfr, hfa, rfl⟩ dX11_next_186 (jj_le rfl) (jj_le rfl)
                  · have z_c_548 := jc_nle (a := x_547.toInt) (b := x_8.toInt) c_548 rfl rfl
                    refine jj_aload_n C dX11_next_176 rfl ?_
                    refine jj_dup C dX11_next_177 rfl ?_
                    refine tt_getF C hok_523 jk_12 15 (by decide) jw_165232ba7c (t := (0, 0, 400)) hk0 (by decide) rfl rfl hf_513 dX11_next_178 ?_
                    refine jj_iconst (v := 1) C dX11_next_181 (by decide) ?_
                    obtain ⟨x_549, ex_549, vx_549⟩ := tt_iadd (x := x_8) (y := (1 : Int32)) (a := x_8.toInt) rfl (b := 1) (by decide) (by omega) (by omega)
                    refine jj_iadd (v := x_549) C dX11_next_182 ex_549 ?_
                    refine rl_put C hok_523 jk_12 15 (by decide) jw_165232ba7c (t := (0, 0, 400)) hk0 (by decide) rfl rfl rfl (tt_iv (by omega) (by omega)) rfl rfl dX11_next_183 (fun pl_550 hok_551 tr hn tl => ?_)
                    replace hf_9 := tr _ _ _ (Or.inr (by decide)) hf_9
                    replace hf_546 := tr _ _ _ (Or.inr (by decide)) hf_546
                    have hf_552 := hn
                    replace hm := hm.put tr (by decide)
                    replace hfr := hfr.put hk0 tr (by decide)
                    replace hfa := hfa.all tl
                    exact jj_vret C ⟨[], pl_550, rfl, rfl, hok_551, hfr, hfa, rfl⟩ dX11_next_186 (jj_le rfl) (jj_le rfl)
                · have z_c_541 := jc_nltL (a := y_538.toInt) (b := 48) c_541 rfl (by decide)
                  have z_c_542 := jc_ltL (a := 57) (b := y_538.toInt) c_542 (by decide) rfl
                  refine jj_if_eqT (tgt := 165) C dX11_next_128 (by decide) (by decide) ?_
                  refine jj_aload_n C dX11_next_165 rfl ?_
                  refine tt_getF C hok_523 jk_12 15 (by decide) jw_165232ba7c (t := (0, 0, 400)) hk0 (by decide) rfl rfl hf_513 dX11_next_166 ?_
                  refine jj_aload_n C dX11_next_169 rfl ?_
                  refine tt_get C hok_523 jk_12 16 (by decide) jw_28b46cb90c (t := (0, 0, 400)) hk0 (by decide) rfl rfl dX11_next_170 (fun v_553 hv_553 hf_554 => ?_)
                  obtain ⟨x_555, rfl, lx_555, ux_555⟩ := tt_vi hv_553
                  refine jj_icmp_ge (tgt := 186) C dX11_next_173 (by decide) (fun c_556 => ?_) (fun c_556 => ?_)
                  · have z_c_556 := jc_le (a := x_555.toInt) (b := x_8.toInt) c_556 rfl rfl
                    exact jj_vret C ⟨[], pl_522, rfl, rfl, hok_523, hfr, hfa, rfl⟩ dX11_next_186 (jj_le rfl) (jj_le rfl)
                  · have z_c_556 := jc_nle (a := x_555.toInt) (b := x_8.toInt) c_556 rfl rfl
                    refine jj_aload_n C dX11_next_176 rfl ?_
                    refine jj_dup C dX11_next_177 rfl ?_
                    refine tt_getF C hok_523 jk_12 15 (by decide) jw_165232ba7c (t := (0, 0, 400)) hk0 (by decide) rfl rfl hf_513 dX11_next_178 ?_
                    refine jj_iconst (v := 1) C dX11_next_181 (by decide) ?_
                    obtain ⟨x_557, ex_557, vx_557⟩ := tt_iadd (x := x_8) (y := (1 : Int32)) (a := x_8.toInt) rfl (b := 1) (by decide) (by omega) (by omega)
                    refine jj_iadd (v := x_557) C dX11_next_182 ex_557 ?_
                    refine rl_put C hok_523 jk_12 15 (by decide) jw_165232ba7c (t := (0, 0, 400)) hk0 (by decide) rfl rfl rfl (tt_iv (by omega) (by omega)) rfl rfl dX11_next_183 (fun pl_558 hok_559 tr hn tl => ?_)
                    replace hf_9 := tr _ _ _ (Or.inr (by decide)) hf_9
                    replace hf_554 := tr _ _ _ (Or.inr (by decide)) hf_554
                    have hf_560 := hn
                    replace hm := hm.put tr (by decide)
                    replace hfr := hfr.put hk0 tr (by decide)
                    replace hfa := hfa.all tl
                    exact jj_vret C ⟨[], pl_558, rfl, rfl, hok_559, hfr, hfa, rfl⟩ dX11_next_186 (jj_le rfl) (jj_le rfl)
                · have z_c_543 := jc_nltL (a := y_538.toInt) (b := 48) c_543 rfl (by decide)
                  have z_c_544 := jc_nltL (a := 57) (b := y_538.toInt) c_544 (by decide) rfl
                  refine jj_if_eqF (tgt := 165) C dX11_next_128 (by decide) (by decide) ?_
                  have hL_561 : ∀ (N : Nat) (pl : va_W) (x_562 : Int32), True → tt_ok rt_tk cA Kd pl → tt_fr Kd [(1, 14), (1, 15)] pl0 pl → tt_fa Kd [] pl0 pl → rl_m pl h0 aw aa at0 ai af ap → tt_at pl h0 15 (.int x_562) → (0 : Int) ≤ x_562.toInt → x_562.toInt ≤ 400 → (401 - x_562.toInt ≤ (N : Int)) → jj_J p l e (jj_rm 1 25 0 0) s m args below meth c 1 A (vx_MQ below (jj_q D A (tt_O (fun rx pl1 r => rx = [] ∧ tt_ok rt_tk cA Kd pl1 ∧ tt_fr Kd [(1, 14), (1, 15)] pl0 pl1 ∧ tt_fa Kd [] pl0 pl1 ∧ ((r = none))))) (jj_x D A (tt_OX (fun _ _ _ => False))) args s 0 0 A) (jj_X D A ([] ++ pl)) 0 0 131 [(0, .ref h0)] [] := by
                    intro NL_561
                    induction NL_561 with
                    | zero => intro pl x_562 _ hok hfr hfa hm hf_563 lx_562 ux_562 hNL_561; exfalso; omega
                    | succ NL_561 ihL_561 =>
                      intro pl x_562 _ hok hfr hfa hm hf_563 lx_562 ux_562 hNL_561
                      replace ihL_561 := fun pl x_562 h1 => ihL_561 pl x_562 trivial h1
                      refine jj_aload_n C dX11_next_131 rfl ?_
                      refine jj_aload_n C dX11_next_132 rfl ?_
                      refine tt_getF C hok jk_12 15 (by decide) jw_165232ba7c (t := (0, 0, 400)) hk0 (by decide) rfl rfl hf_563 dX11_next_133 ?_
                      obtain ⟨qc, gs, hqc⟩ := tt_recv (cx := []) hok hk0 (by decide) rfl
                      refine tt_callV (rest := []) C (rc_X11_byteAt_4afdc3 hl D cA ak x_562 hk0 hkw hka hkt hki hkf hkp (by omega) (by omega) hok hm) [] [] rfl rfl (by decide) (by decide) (by decide) qc hqc rfl rfl jw_98db775389 jw_8e26deba02 jw_8ef34ac32e jw_f96c99f44d jw_4737f96f0a jn_X11_byteAt rfl (jj_le rfl) (jj_le rfl) (jj_le rfl) (jj_le rfl) (jj_le rfl) dX11_next_136 rfl (fun _ _ _ hX => hX.elim) (fun rx pl_564 r O_568 => ?_)
                      obtain ⟨rfl, hok_565, hr_566, ha_567, hR_569⟩ := O_568
                      replace hf_563 := hr_566.at hk0 (by decide) (by decide) hf_563
                      replace hm := hm.fr hr_566 hk0 rfl
                      replace hfr := hfr.trans (hr_566.sub (by decide))
                      replace hfa := hfa.trans (ha_567.sub (by decide))
                      rcases hR_569 with rfl | ⟨x_570, lx_570, ux_570, l_571, u_572, rfl⟩
                      · refine jj_i2l (v := (-1)) C dX11_next_139 (by decide) ?_
                        refine jj_ldc2 (v := 48) C dX11_next_140 jw_d6cfdd4319 ?_
                        refine jj_ldc2 (v := 57) C dX11_next_143 jw_8c7ed3b7a5 ?_
                        refine tt_call0S (rest := []) C (ct_X11_in_3 hl D cA ak) jw_2a24feddee jw_12f28ccfda jw_f96c99f44d jw_e07c9ada56 jn_X11_in rfl (jj_le rfl) (jj_le rfl) (jj_le rfl) (jj_le rfl) (jj_le rfl) dX11_next_146 rfl (fun w1 r O_573 => ?_)
                        obtain ⟨-, rfl⟩ := O_573
                        refine jj_if_eqT (tgt := 186) C dX11_next_149 (by decide) (by decide) ?_
                        exact jj_vret C ⟨[], pl_564, rfl, rfl, hok_565, hfr, hfa, rfl⟩ dX11_next_186 (jj_le rfl) (jj_le rfl)
                      · obtain ⟨y_574, ey_574, vy_574⟩ := tt_i2l x_570
                        refine jj_i2l (v := y_574) C dX11_next_139 ey_574 ?_
                        refine jj_ldc2 (v := 48) C dX11_next_140 jw_d6cfdd4319 ?_
                        refine jj_ldc2 (v := 57) C dX11_next_143 jw_8c7ed3b7a5 ?_
                        refine tt_call0S (rest := []) C (ct_X11_in_4 hl D cA ak y_574) jw_2a24feddee jw_12f28ccfda jw_f96c99f44d jw_e07c9ada56 jn_X11_in rfl (jj_le rfl) (jj_le rfl) (jj_le rfl) (jj_le rfl) (jj_le rfl) dX11_next_146 rfl (fun w1 r O_575 => ?_)
                        rcases O_575 with ⟨c_576, -, rfl⟩ | ⟨c_577, c_578, -, rfl⟩ | ⟨c_579, c_580, -, rfl⟩
                        · have z_c_576 := jc_ltL (a := y_574.toInt) (b := 48) c_576 rfl (by decide)
                          refine jj_if_eqT (tgt := 186) C dX11_next_149 (by decide) (by decide) ?_
                          exact jj_vret C ⟨[], pl_564, rfl, rfl, hok_565, hfr, hfa, rfl⟩ dX11_next_186 (jj_le rfl) (jj_le rfl)
                        · have z_c_577 := jc_nltL (a := y_574.toInt) (b := 48) c_577 rfl (by decide)
                          have z_c_578 := jc_ltL (a := 57) (b := y_574.toInt) c_578 (by decide) rfl
                          refine jj_if_eqT (tgt := 186) C dX11_next_149 (by decide) (by decide) ?_
                          exact jj_vret C ⟨[], pl_564, rfl, rfl, hok_565, hfr, hfa, rfl⟩ dX11_next_186 (jj_le rfl) (jj_le rfl)
                        · have z_c_579 := jc_nltL (a := y_574.toInt) (b := 48) c_579 rfl (by decide)
                          have z_c_580 := jc_nltL (a := 57) (b := y_574.toInt) c_580 (by decide) rfl
                          refine jj_if_eqF (tgt := 186) C dX11_next_149 (by decide) (by decide) ?_
                          refine jj_aload_n C dX11_next_152 rfl ?_
                          refine jj_dup C dX11_next_153 rfl ?_
                          refine tt_getF C hok_565 jk_12 15 (by decide) jw_165232ba7c (t := (0, 0, 400)) hk0 (by decide) rfl rfl hf_563 dX11_next_154 ?_
                          refine jj_iconst (v := 1) C dX11_next_157 (by decide) ?_
                          obtain ⟨x_581, ex_581, vx_581⟩ := tt_iadd (x := x_562) (y := (1 : Int32)) (a := x_562.toInt) rfl (b := 1) (by decide) (by omega) (by omega)
                          refine jj_iadd (v := x_581) C dX11_next_158 ex_581 ?_
                          refine rl_put C hok_565 jk_12 15 (by decide) jw_165232ba7c (t := (0, 0, 400)) hk0 (by decide) rfl rfl rfl (tt_iv (by omega) (by omega)) rfl rfl dX11_next_159 (fun pl_582 hok_583 tr hn tl => ?_)
                          have hf_584 := hn
                          replace hm := hm.put tr (by decide)
                          replace hfr := hfr.put hk0 tr (by decide)
                          replace hfa := hfa.all tl
                          refine jj_goto (tgt := 131) C dX11_next_162 (by decide) ?_
                          exact ihL_561 pl_582 x_581 hok_583 hfr hfa hm hf_584 (by first | omega | decide | exact tt_lo _ | exact tt_hi _) (by first | omega | decide | exact tt_lo _ | exact tt_hi _) (by first | omega | decide | exact tt_lo _ | exact tt_hi _)
                  exact hL_561 _ pl_522 x_8 trivial hok_523 hfr hfa hm hf_513 (by first | omega | decide | exact tt_lo _ | exact tt_hi _) (by first | omega | decide | exact tt_lo _ | exact tt_hi _) (Int.self_le_toNat _)
            · obtain ⟨y_585, ey_585, vy_585⟩ := tt_i2l x_520
              refine jj_i2l (v := y_585) C dX11_next_63 ey_585 ?_
              refine jj_ldc2 (v := 97) C dX11_next_64 jw_39d46451b9 ?_
              refine jj_ldc2 (v := 122) C dX11_next_67 jw_33d5fc8685 ?_
              refine tt_call0S (rest := []) C (ct_X11_in_5 hl D cA ak y_585) jw_2a24feddee jw_12f28ccfda jw_f96c99f44d jw_e07c9ada56 jn_X11_in rfl (jj_le rfl) (jj_le rfl) (jj_le rfl) (jj_le rfl) (jj_le rfl) dX11_next_70 rfl (fun w1 r O_586 => ?_)
              rcases O_586 with ⟨c_587, -, rfl⟩ | ⟨c_588, c_589, -, rfl⟩ | ⟨c_590, c_591, -, rfl⟩
              · have z_c_587 := jc_ltL (a := y_585.toInt) (b := 97) c_587 rfl (by decide)
                refine jj_if_eqT (tgt := 110) C dX11_next_73 (by decide) (by decide) ?_
                refine jj_aload_n C dX11_next_110 rfl ?_
                refine jj_aload_n C dX11_next_111 rfl ?_
                refine tt_getF C hok_515 jk_12 15 (by decide) jw_165232ba7c (t := (0, 0, 400)) hk0 (by decide) rfl rfl hf_513 dX11_next_112 ?_
                obtain ⟨qc, gs, hqc⟩ := tt_recv (cx := []) hok_515 hk0 (by decide) rfl
                refine tt_callV (rest := []) C (rc_X11_byteAt_f5f728 hl D cA ak x_8 hk0 hkw hka hkt hki hkf hkp (by omega) (by omega) hok_515 hm) [] [] rfl rfl (by decide) (by decide) (by decide) qc hqc rfl rfl jw_98db775389 jw_8e26deba02 jw_8ef34ac32e jw_f96c99f44d jw_4737f96f0a jn_X11_byteAt rfl (jj_le rfl) (jj_le rfl) (jj_le rfl) (jj_le rfl) (jj_le rfl) dX11_next_115 rfl (fun _ _ _ hX => hX.elim) (fun rx pl_592 r O_596 => ?_)
                obtain ⟨rfl, hok_593, hr_594, ha_595, hR_597⟩ := O_596
                replace hf_9 := hr_594.at hk0 (by decide) (by decide) hf_9
                replace hf_513 := hr_594.at hk0 (by decide) (by decide) hf_513
                replace hm := hm.fr hr_594 hk0 rfl
                replace hfr := hfr.trans (hr_594.sub (by decide))
                replace hfa := hfa.trans (ha_595.sub (by decide))
                rcases hR_597 with rfl | ⟨x_598, lx_598, ux_598, rfl⟩
                · refine jj_i2l (v := (-1)) C dX11_next_118 (by decide) ?_
                  refine jj_ldc2 (v := 48) C dX11_next_119 jw_d6cfdd4319 ?_
                  refine jj_ldc2 (v := 57) C dX11_next_122 jw_8c7ed3b7a5 ?_
                  refine tt_call0S (rest := []) C (ct_X11_in_3 hl D cA ak) jw_2a24feddee jw_12f28ccfda jw_f96c99f44d jw_e07c9ada56 jn_X11_in rfl (jj_le rfl) (jj_le rfl) (jj_le rfl) (jj_le rfl) (jj_le rfl) dX11_next_125 rfl (fun w1 r O_599 => ?_)
                  obtain ⟨-, rfl⟩ := O_599
                  refine jj_if_eqT (tgt := 165) C dX11_next_128 (by decide) (by decide) ?_
                  refine jj_aload_n C dX11_next_165 rfl ?_
                  refine tt_getF C hok_593 jk_12 15 (by decide) jw_165232ba7c (t := (0, 0, 400)) hk0 (by decide) rfl rfl hf_513 dX11_next_166 ?_
                  refine jj_aload_n C dX11_next_169 rfl ?_
                  refine tt_get C hok_593 jk_12 16 (by decide) jw_28b46cb90c (t := (0, 0, 400)) hk0 (by decide) rfl rfl dX11_next_170 (fun v_600 hv_600 hf_601 => ?_)
                  obtain ⟨x_602, rfl, lx_602, ux_602⟩ := tt_vi hv_600
                  refine jj_icmp_ge (tgt := 186) C dX11_next_173 (by decide) (fun c_603 => ?_) (fun c_603 => ?_)
                  · have z_c_603 := jc_le (a := x_602.toInt) (b := x_8.toInt) c_603 rfl rfl
                    exact jj_vret C ⟨[], pl_592, rfl, rfl, hok_593, hfr, hfa, rfl⟩ dX11_next_186 (jj_le rfl) (jj_le rfl)
                  · have z_c_603 := jc_nle (a := x_602.toInt) (b := x_8.toInt) c_603 rfl rfl
                    refine jj_aload_n C dX11_next_176 rfl ?_
                    refine jj_dup C dX11_next_177 rfl ?_
                    refine tt_getF C hok_593 jk_12 15 (by decide) jw_165232ba7c (t := (0, 0, 400)) hk0 (by decide) rfl rfl hf_513 dX11_next_178 ?_
                    refine jj_iconst (v := 1) C dX11_next_181 (by decide) ?_
                    obtain ⟨x_604, ex_604, vx_604⟩ := tt_iadd (x := x_8) (y := (1 : Int32)) (a := x_8.toInt) rfl (b := 1) (by decide) (by omega) (by omega)
                    refine jj_iadd (v := x_604) C dX11_next_182 ex_604 ?_
                    refine rl_put C hok_593 jk_12 15 (by decide) jw_165232ba7c (t := (0, 0, 400)) hk0 (by decide) rfl rfl rfl (tt_iv (by omega) (by omega)) rfl rfl dX11_next_183 (fun pl_605 hok_606 tr hn tl => ?_)
                    replace hf_9 := tr _ _ _ (Or.inr (by decide)) hf_9
                    replace hf_601 := tr _ _ _ (Or.inr (by decide)) hf_601
                    have hf_607 := hn
                    replace hm := hm.put tr (by decide)
                    replace hfr := hfr.put hk0 tr (by decide)
                    replace hfa := hfa.all tl
                    exact jj_vret C ⟨[], pl_605, rfl, rfl, hok_606, hfr, hfa, rfl⟩ dX11_next_186 (jj_le rfl) (jj_le rfl)
                · obtain ⟨y_608, ey_608, vy_608⟩ := tt_i2l x_598
                  refine jj_i2l (v := y_608) C dX11_next_118 ey_608 ?_
                  refine jj_ldc2 (v := 48) C dX11_next_119 jw_d6cfdd4319 ?_
                  refine jj_ldc2 (v := 57) C dX11_next_122 jw_8c7ed3b7a5 ?_
                  refine tt_call0S (rest := []) C (ct_X11_in_4 hl D cA ak y_608) jw_2a24feddee jw_12f28ccfda jw_f96c99f44d jw_e07c9ada56 jn_X11_in rfl (jj_le rfl) (jj_le rfl) (jj_le rfl) (jj_le rfl) (jj_le rfl) dX11_next_125 rfl (fun w1 r O_609 => ?_)
                  rcases O_609 with ⟨c_610, -, rfl⟩ | ⟨c_611, c_612, -, rfl⟩ | ⟨c_613, c_614, -, rfl⟩
                  · have z_c_610 := jc_ltL (a := y_608.toInt) (b := 48) c_610 rfl (by decide)
                    refine jj_if_eqT (tgt := 165) C dX11_next_128 (by decide) (by decide) ?_
                    refine jj_aload_n C dX11_next_165 rfl ?_
                    refine tt_getF C hok_593 jk_12 15 (by decide) jw_165232ba7c (t := (0, 0, 400)) hk0 (by decide) rfl rfl hf_513 dX11_next_166 ?_
                    refine jj_aload_n C dX11_next_169 rfl ?_
                    refine tt_get C hok_593 jk_12 16 (by decide) jw_28b46cb90c (t := (0, 0, 400)) hk0 (by decide) rfl rfl dX11_next_170 (fun v_615 hv_615 hf_616 => ?_)
                    obtain ⟨x_617, rfl, lx_617, ux_617⟩ := tt_vi hv_615
                    refine jj_icmp_ge (tgt := 186) C dX11_next_173 (by decide) (fun c_618 => ?_) (fun c_618 => ?_)
                    · have z_c_618 := jc_le (a := x_617.toInt) (b := x_8.toInt) c_618 rfl rfl
                      exact jj_vret C ⟨[], pl_592, rfl, rfl, hok_593, hfr, hfa, rfl⟩ dX11_next_186 (jj_le rfl) (jj_le rfl)
                    · have z_c_618 := jc_nle (a := x_617.toInt) (b := x_8.toInt) c_618 rfl rfl
                      refine jj_aload_n C dX11_next_176 rfl ?_
                      refine jj_dup C dX11_next_177 rfl ?_
                      refine tt_getF C hok_593 jk_12 15 (by decide) jw_165232ba7c (t := (0, 0, 400)) hk0 (by decide) rfl rfl hf_513 dX11_next_178 ?_
                      refine jj_iconst (v := 1) C dX11_next_181 (by decide) ?_
                      obtain ⟨x_619, ex_619, vx_619⟩ := tt_iadd (x := x_8) (y := (1 : Int32)) (a := x_8.toInt) rfl (b := 1) (by decide) (by omega) (by omega)
                      refine jj_iadd (v := x_619) C dX11_next_182 ex_619 ?_
                      refine rl_put C hok_593 jk_12 15 (by decide) jw_165232ba7c (t := (0, 0, 400)) hk0 (by decide) rfl rfl rfl (tt_iv (by omega) (by omega)) rfl rfl dX11_next_183 (fun pl_620 hok_621 tr hn tl => ?_)
                      replace hf_9 := tr _ _ _ (Or.inr (by decide)) hf_9
                      replace hf_616 := tr _ _ _ (Or.inr (by decide)) hf_616
                      have hf_622 := hn
                      replace hm := hm.put tr (by decide)
                      replace hfr := hfr.put hk0 tr (by decide)
                      replace hfa := hfa.all tl
                      exact jj_vret C ⟨[], pl_620, rfl, rfl, hok_621, hfr, hfa, rfl⟩ dX11_next_186 (jj_le rfl) (jj_le rfl)
                  · have z_c_611 := jc_nltL (a := y_608.toInt) (b := 48) c_611 rfl (by decide)
                    have z_c_612 := jc_ltL (a := 57) (b := y_608.toInt) c_612 (by decide) rfl
                    refine jj_if_eqT (tgt := 165) C dX11_next_128 (by decide) (by decide) ?_
                    refine jj_aload_n C dX11_next_165 rfl ?_
                    refine tt_getF C hok_593 jk_12 15 (by decide) jw_165232ba7c (t := (0, 0, 400)) hk0 (by decide) rfl rfl hf_513 dX11_next_166 ?_
                    refine jj_aload_n C dX11_next_169 rfl ?_
                    refine tt_get C hok_593 jk_12 16 (by decide) jw_28b46cb90c (t := (0, 0, 400)) hk0 (by decide) rfl rfl dX11_next_170 (fun v_623 hv_623 hf_624 => ?_)
                    obtain ⟨x_625, rfl, lx_625, ux_625⟩ := tt_vi hv_623
                    refine jj_icmp_ge (tgt := 186) C dX11_next_173 (by decide) (fun c_626 => ?_) (fun c_626 => ?_)
                    · have z_c_626 := jc_le (a := x_625.toInt) (b := x_8.toInt) c_626 rfl rfl
                      exact jj_vret C ⟨[], pl_592, rfl, rfl, hok_593, hfr, hfa, rfl⟩ dX11_next_186 (jj_le rfl) (jj_le rfl)
                    · have z_c_626 := jc_nle (a := x_625.toInt) (b := x_8.toInt) c_626 rfl rfl
                      refine jj_aload_n C dX11_next_176 rfl ?_
                      refine jj_dup C dX11_next_177 rfl ?_
                      refine tt_getF C hok_593 jk_12 15 (by decide) jw_165232ba7c (t := (0, 0, 400)) hk0 (by decide) rfl rfl hf_513 dX11_next_178 ?_
                      refine jj_iconst (v := 1) C dX11_next_181 (by decide) ?_
                      obtain ⟨x_627, ex_627, vx_627⟩ := tt_iadd (x := x_8) (y := (1 : Int32)) (a := x_8.toInt) rfl (b := 1) (by decide) (by omega) (by omega)
                      refine jj_iadd (v := x_627) C dX11_next_182 ex_627 ?_
                      refine rl_put C hok_593 jk_12 15 (by decide) jw_165232ba7c (t := (0, 0, 400)) hk0 (by decide) rfl rfl rfl (tt_iv (by omega) (by omega)) rfl rfl dX11_next_183 (fun pl_628 hok_629 tr hn tl => ?_)
                      replace hf_9 := tr _ _ _ (Or.inr (by decide)) hf_9
                      replace hf_624 := tr _ _ _ (Or.inr (by decide)) hf_624
                      have hf_630 := hn
                      replace hm := hm.put tr (by decide)
                      replace hfr := hfr.put hk0 tr (by decide)
                      replace hfa := hfa.all tl
                      exact jj_vret C ⟨[], pl_628, rfl, rfl, hok_629, hfr, hfa, rfl⟩ dX11_next_186 (jj_le rfl) (jj_le rfl)
                  · have z_c_613 := jc_nltL (a := y_608.toInt) (b := 48) c_613 rfl (by decide)
                    have z_c_614 := jc_nltL (a := 57) (b := y_608.toInt) c_614 (by decide) rfl
                    refine jj_if_eqF (tgt := 165) C dX11_next_128 (by decide) (by decide) ?_
                    have hL_631 : ∀ (N : Nat) (pl : va_W) (x_632 : Int32), True → tt_ok rt_tk cA Kd pl → tt_fr Kd [(1, 14), (1, 15)] pl0 pl → tt_fa Kd [] pl0 pl → rl_m pl h0 aw aa at0 ai af ap → tt_at pl h0 15 (.int x_632) → (0 : Int) ≤ x_632.toInt → x_632.toInt ≤ 400 → (401 - x_632.toInt ≤ (N : Int)) → jj_J p l e (jj_rm 1 25 0 0) s m args below meth c 1 A (vx_MQ below (jj_q D A (tt_O (fun rx pl1 r => rx = [] ∧ tt_ok rt_tk cA Kd pl1 ∧ tt_fr Kd [(1, 14), (1, 15)] pl0 pl1 ∧ tt_fa Kd [] pl0 pl1 ∧ ((r = none))))) (jj_x D A (tt_OX (fun _ _ _ => False))) args s 0 0 A) (jj_X D A ([] ++ pl)) 0 0 131 [(0, .ref h0)] [] := by
                      intro NL_631
                      induction NL_631 with
                      | zero => intro pl x_632 _ hok hfr hfa hm hf_633 lx_632 ux_632 hNL_631; exfalso; omega
                      | succ NL_631 ihL_631 =>
                        intro pl x_632 _ hok hfr hfa hm hf_633 lx_632 ux_632 hNL_631
                        replace ihL_631 := fun pl x_632 h1 => ihL_631 pl x_632 trivial h1
                        refine jj_aload_n C dX11_next_131 rfl ?_
                        refine jj_aload_n C dX11_next_132 rfl ?_
                        refine tt_getF C hok jk_12 15 (by decide) jw_165232ba7c (t := (0, 0, 400)) hk0 (by decide) rfl rfl hf_633 dX11_next_133 ?_
                        obtain ⟨qc, gs, hqc⟩ := tt_recv (cx := []) hok hk0 (by decide) rfl
                        refine tt_callV (rest := []) C (rc_X11_byteAt_4afdc3 hl D cA ak x_632 hk0 hkw hka hkt hki hkf hkp (by omega) (by omega) hok hm) [] [] rfl rfl (by decide) (by decide) (by decide) qc hqc rfl rfl jw_98db775389 jw_8e26deba02 jw_8ef34ac32e jw_f96c99f44d jw_4737f96f0a jn_X11_byteAt rfl (jj_le rfl) (jj_le rfl) (jj_le rfl) (jj_le rfl) (jj_le rfl) dX11_next_136 rfl (fun _ _ _ hX => hX.elim) (fun rx pl_634 r O_638 => ?_)
                        obtain ⟨rfl, hok_635, hr_636, ha_637, hR_639⟩ := O_638
                        replace hf_633 := hr_636.at hk0 (by decide) (by decide) hf_633
                        replace hm := hm.fr hr_636 hk0 rfl
                        replace hfr := hfr.trans (hr_636.sub (by decide))
                        replace hfa := hfa.trans (ha_637.sub (by decide))
                        rcases hR_639 with rfl | ⟨x_640, lx_640, ux_640, l_641, u_642, rfl⟩
                        · refine jj_i2l (v := (-1)) C dX11_next_139 (by decide) ?_
                          refine jj_ldc2 (v := 48) C dX11_next_140 jw_d6cfdd4319 ?_
                          refine jj_ldc2 (v := 57) C dX11_next_143 jw_8c7ed3b7a5 ?_
                          refine tt_call0S (rest := []) C (ct_X11_in_3 hl D cA ak) jw_2a24feddee jw_12f28ccfda jw_f96c99f44d jw_e07c9ada56 jn_X11_in rfl (jj_le rfl) (jj_le rfl) (jj_le rfl) (jj_le rfl) (jj_le rfl) dX11_next_146 rfl (fun w1 r O_643 => ?_)
                          obtain ⟨-, rfl⟩ := O_643
                          refine jj_if_eqT (tgt := 186) C dX11_next_149 (by decide) (by decide) ?_
                          exact jj_vret C ⟨[], pl_634, rfl, rfl, hok_635, hfr, hfa, rfl⟩ dX11_next_186 (jj_le rfl) (jj_le rfl)
                        · obtain ⟨y_644, ey_644, vy_644⟩ := tt_i2l x_640
                          refine jj_i2l (v := y_644) C dX11_next_139 ey_644 ?_
                          refine jj_ldc2 (v := 48) C dX11_next_140 jw_d6cfdd4319 ?_
                          refine jj_ldc2 (v := 57) C dX11_next_143 jw_8c7ed3b7a5 ?_
                          refine tt_call0S (rest := []) C (ct_X11_in_4 hl D cA ak y_644) jw_2a24feddee jw_12f28ccfda jw_f96c99f44d jw_e07c9ada56 jn_X11_in rfl (jj_le rfl) (jj_le rfl) (jj_le rfl) (jj_le rfl) (jj_le rfl) dX11_next_146 rfl (fun w1 r O_645 => ?_)
                          rcases O_645 with ⟨c_646, -, rfl⟩ | ⟨c_647, c_648, -, rfl⟩ | ⟨c_649, c_650, -, rfl⟩
                          · have z_c_646 := jc_ltL (a := y_644.toInt) (b := 48) c_646 rfl (by decide)
                            refine jj_if_eqT (tgt := 186) C dX11_next_149 (by decide) (by decide) ?_
                            exact jj_vret C ⟨[], pl_634, rfl, rfl, hok_635, hfr, hfa, rfl⟩ dX11_next_186 (jj_le rfl) (jj_le rfl)
                          · have z_c_647 := jc_nltL (a := y_644.toInt) (b := 48) c_647 rfl (by decide)
                            have z_c_648 := jc_ltL (a := 57) (b := y_644.toInt) c_648 (by decide) rfl
                            refine jj_if_eqT (tgt := 186) C dX11_next_149 (by decide) (by decide) ?_
                            exact jj_vret C ⟨[], pl_634, rfl, rfl, hok_635, hfr, hfa, rfl⟩ dX11_next_186 (jj_le rfl) (jj_le rfl)
                          · have z_c_649 := jc_nltL (a := y_644.toInt) (b := 48) c_649 rfl (by decide)
                            have z_c_650 := jc_nltL (a := 57) (b := y_644.toInt) c_650 (by decide) rfl
                            refine jj_if_eqF (tgt := 186) C dX11_next_149 (by decide) (by decide) ?_
                            refine jj_aload_n C dX11_next_152 rfl ?_
                            refine jj_dup C dX11_next_153 rfl ?_
                            refine tt_getF C hok_635 jk_12 15 (by decide) jw_165232ba7c (t := (0, 0, 400)) hk0 (by decide) rfl rfl hf_633 dX11_next_154 ?_
                            refine jj_iconst (v := 1) C dX11_next_157 (by decide) ?_
                            obtain ⟨x_651, ex_651, vx_651⟩ := tt_iadd (x := x_632) (y := (1 : Int32)) (a := x_632.toInt) rfl (b := 1) (by decide) (by omega) (by omega)
                            refine jj_iadd (v := x_651) C dX11_next_158 ex_651 ?_
                            refine rl_put C hok_635 jk_12 15 (by decide) jw_165232ba7c (t := (0, 0, 400)) hk0 (by decide) rfl rfl rfl (tt_iv (by omega) (by omega)) rfl rfl dX11_next_159 (fun pl_652 hok_653 tr hn tl => ?_)
                            have hf_654 := hn
                            replace hm := hm.put tr (by decide)
                            replace hfr := hfr.put hk0 tr (by decide)
                            replace hfa := hfa.all tl
                            refine jj_goto (tgt := 131) C dX11_next_162 (by decide) ?_
                            exact ihL_631 pl_652 x_651 hok_653 hfr hfa hm hf_654 (by first | omega | decide | exact tt_lo _ | exact tt_hi _) (by first | omega | decide | exact tt_lo _ | exact tt_hi _) (by first | omega | decide | exact tt_lo _ | exact tt_hi _)
                    exact hL_631 _ pl_592 x_8 trivial hok_593 hfr hfa hm hf_513 (by first | omega | decide | exact tt_lo _ | exact tt_hi _) (by first | omega | decide | exact tt_lo _ | exact tt_hi _) (Int.self_le_toNat _)
              · have z_c_588 := jc_nltL (a := y_585.toInt) (b := 97) c_588 rfl (by decide)
                have z_c_589 := jc_ltL (a := 122) (b := y_585.toInt) c_589 (by decide) rfl
                refine jj_if_eqT (tgt := 110) C dX11_next_73 (by decide) (by decide) ?_
                refine jj_aload_n C dX11_next_110 rfl ?_
                refine jj_aload_n C dX11_next_111 rfl ?_
                refine tt_getF C hok_515 jk_12 15 (by decide) jw_165232ba7c (t := (0, 0, 400)) hk0 (by decide) rfl rfl hf_513 dX11_next_112 ?_
                obtain ⟨qc, gs, hqc⟩ := tt_recv (cx := []) hok_515 hk0 (by decide) rfl
                refine tt_callV (rest := []) C (rc_X11_byteAt_f5f728 hl D cA ak x_8 hk0 hkw hka hkt hki hkf hkp (by omega) (by omega) hok_515 hm) [] [] rfl rfl (by decide) (by decide) (by decide) qc hqc rfl rfl jw_98db775389 jw_8e26deba02 jw_8ef34ac32e jw_f96c99f44d jw_4737f96f0a jn_X11_byteAt rfl (jj_le rfl) (jj_le rfl) (jj_le rfl) (jj_le rfl) (jj_le rfl) dX11_next_115 rfl (fun _ _ _ hX => hX.elim) (fun rx pl_655 r O_659 => ?_)
                obtain ⟨rfl, hok_656, hr_657, ha_658, hR_660⟩ := O_659
                replace hf_9 := hr_657.at hk0 (by decide) (by decide) hf_9
                replace hf_513 := hr_657.at hk0 (by decide) (by decide) hf_513
                replace hm := hm.fr hr_657 hk0 rfl
                replace hfr := hfr.trans (hr_657.sub (by decide))
                replace hfa := hfa.trans (ha_658.sub (by decide))
                rcases hR_660 with rfl | ⟨x_661, lx_661, ux_661, rfl⟩
                · refine jj_i2l (v := (-1)) C dX11_next_118 (by decide) ?_
                  refine jj_ldc2 (v := 48) C dX11_next_119 jw_d6cfdd4319 ?_
                  refine jj_ldc2 (v := 57) C dX11_next_122 jw_8c7ed3b7a5 ?_
                  refine tt_call0S (rest := []) C (ct_X11_in_3 hl D cA ak) jw_2a24feddee jw_12f28ccfda jw_f96c99f44d jw_e07c9ada56 jn_X11_in rfl (jj_le rfl) (jj_le rfl) (jj_le rfl) (jj_le rfl) (jj_le rfl) dX11_next_125 rfl (fun w1 r O_662 => ?_)
                  obtain ⟨-, rfl⟩ := O_662
                  refine jj_if_eqT (tgt := 165) C dX11_next_128 (by decide) (by decide) ?_
                  refine jj_aload_n C dX11_next_165 rfl ?_
                  refine tt_getF C hok_656 jk_12 15 (by decide) jw_165232ba7c (t := (0, 0, 400)) hk0 (by decide) rfl rfl hf_513 dX11_next_166 ?_
                  refine jj_aload_n C dX11_next_169 rfl ?_
                  refine tt_get C hok_656 jk_12 16 (by decide) jw_28b46cb90c (t := (0, 0, 400)) hk0 (by decide) rfl rfl dX11_next_170 (fun v_663 hv_663 hf_664 => ?_)
                  obtain ⟨x_665, rfl, lx_665, ux_665⟩ := tt_vi hv_663
                  refine jj_icmp_ge (tgt := 186) C dX11_next_173 (by decide) (fun c_666 => ?_) (fun c_666 => ?_)
                  · have z_c_666 := jc_le (a := x_665.toInt) (b := x_8.toInt) c_666 rfl rfl
                    exact jj_vret C ⟨[], pl_655, rfl, rfl, hok_656, hfr, hfa, rfl⟩ dX11_next_186 (jj_le rfl) (jj_le rfl)
                  · have z_c_666 := jc_nle (a := x_665.toInt) (b := x_8.toInt) c_666 rfl rfl
                    refine jj_aload_n C dX11_next_176 rfl ?_
                    refine jj_dup C dX11_next_177 rfl ?_
                    refine tt_getF C hok_656 jk_12 15 (by decide) jw_165232ba7c (t := (0, 0, 400)) hk0 (by decide) rfl rfl hf_513 dX11_next_178 ?_
                    refine jj_iconst (v := 1) C dX11_next_181 (by decide) ?_
                    obtain ⟨x_667, ex_667, vx_667⟩ := tt_iadd (x := x_8) (y := (1 : Int32)) (a := x_8.toInt) rfl (b := 1) (by decide) (by omega) (by omega)
                    refine jj_iadd (v := x_667) C dX11_next_182 ex_667 ?_
                    refine rl_put C hok_656 jk_12 15 (by decide) jw_165232ba7c (t := (0, 0, 400)) hk0 (by decide) rfl rfl rfl (tt_iv (by omega) (by omega)) rfl rfl dX11_next_183 (fun pl_668 hok_669 tr hn tl => ?_)
                    replace hf_9 := tr _ _ _ (Or.inr (by decide)) hf_9
                    replace hf_664 := tr _ _ _ (Or.inr (by decide)) hf_664
                    have hf_670 := hn
                    replace hm := hm.put tr (by decide)
                    replace hfr := hfr.put hk0 tr (by decide)
                    replace hfa := hfa.all tl
                    exact jj_vret C ⟨[], pl_668, rfl, rfl, hok_669, hfr, hfa, rfl⟩ dX11_next_186 (jj_le rfl) (jj_le rfl)
                · obtain ⟨y_671, ey_671, vy_671⟩ := tt_i2l x_661
                  refine jj_i2l (v := y_671) C dX11_next_118 ey_671 ?_
                  refine jj_ldc2 (v := 48) C dX11_next_119 jw_d6cfdd4319 ?_
                  refine jj_ldc2 (v := 57) C dX11_next_122 jw_8c7ed3b7a5 ?_
                  refine tt_call0S (rest := []) C (ct_X11_in_4 hl D cA ak y_671) jw_2a24feddee jw_12f28ccfda jw_f96c99f44d jw_e07c9ada56 jn_X11_in rfl (jj_le rfl) (jj_le rfl) (jj_le rfl) (jj_le rfl) (jj_le rfl) dX11_next_125 rfl (fun w1 r O_672 => ?_)
                  rcases O_672 with ⟨c_673, -, rfl⟩ | ⟨c_674, c_675, -, rfl⟩ | ⟨c_676, c_677, -, rfl⟩
                  · have z_c_673 := jc_ltL (a := y_671.toInt) (b := 48) c_673 rfl (by decide)
                    refine jj_if_eqT (tgt := 165) C dX11_next_128 (by decide) (by decide) ?_
                    refine jj_aload_n C dX11_next_165 rfl ?_
                    refine tt_getF C hok_656 jk_12 15 (by decide) jw_165232ba7c (t := (0, 0, 400)) hk0 (by decide) rfl rfl hf_513 dX11_next_166 ?_
                    refine jj_aload_n C dX11_next_169 rfl ?_
                    refine tt_get C hok_656 jk_12 16 (by decide) jw_28b46cb90c (t := (0, 0, 400)) hk0 (by decide) rfl rfl dX11_next_170 (fun v_678 hv_678 hf_679 => ?_)
                    obtain ⟨x_680, rfl, lx_680, ux_680⟩ := tt_vi hv_678
                    refine jj_icmp_ge (tgt := 186) C dX11_next_173 (by decide) (fun c_681 => ?_) (fun c_681 => ?_)
                    · have z_c_681 := jc_le (a := x_680.toInt) (b := x_8.toInt) c_681 rfl rfl
                      exact jj_vret C ⟨[], pl_655, rfl, rfl, hok_656, hfr, hfa, rfl⟩ dX11_next_186 (jj_le rfl) (jj_le rfl)
                    · have z_c_681 := jc_nle (a := x_680.toInt) (b := x_8.toInt) c_681 rfl rfl
                      refine jj_aload_n C dX11_next_176 rfl ?_
                      refine jj_dup C dX11_next_177 rfl ?_
                      refine tt_getF C hok_656 jk_12 15 (by decide) jw_165232ba7c (t := (0, 0, 400)) hk0 (by decide) rfl rfl hf_513 dX11_next_178 ?_
                      refine jj_iconst (v := 1) C dX11_next_181 (by decide) ?_
                      obtain ⟨x_682, ex_682, vx_682⟩ := tt_iadd (x := x_8) (y := (1 : Int32)) (a := x_8.toInt) rfl (b := 1) (by decide) (by omega) (by omega)
                      refine jj_iadd (v := x_682) C dX11_next_182 ex_682 ?_
                      refine rl_put C hok_656 jk_12 15 (by decide) jw_165232ba7c (t := (0, 0, 400)) hk0 (by decide) rfl rfl rfl (tt_iv (by omega) (by omega)) rfl rfl dX11_next_183 (fun pl_683 hok_684 tr hn tl => ?_)
                      replace hf_9 := tr _ _ _ (Or.inr (by decide)) hf_9
                      replace hf_679 := tr _ _ _ (Or.inr (by decide)) hf_679
                      have hf_685 := hn
                      replace hm := hm.put tr (by decide)
                      replace hfr := hfr.put hk0 tr (by decide)
                      replace hfa := hfa.all tl
                      exact jj_vret C ⟨[], pl_683, rfl, rfl, hok_684, hfr, hfa, rfl⟩ dX11_next_186 (jj_le rfl) (jj_le rfl)
                  · have z_c_674 := jc_nltL (a := y_671.toInt) (b := 48) c_674 rfl (by decide)
                    have z_c_675 := jc_ltL (a := 57) (b := y_671.toInt) c_675 (by decide) rfl
                    refine jj_if_eqT (tgt := 165) C dX11_next_128 (by decide) (by decide) ?_
                    refine jj_aload_n C dX11_next_165 rfl ?_
                    refine tt_getF C hok_656 jk_12 15 (by decide) jw_165232ba7c (t := (0, 0, 400)) hk0 (by decide) rfl rfl hf_513 dX11_next_166 ?_
                    refine jj_aload_n C dX11_next_169 rfl ?_
                    refine tt_get C hok_656 jk_12 16 (by decide) jw_28b46cb90c (t := (0, 0, 400)) hk0 (by decide) rfl rfl dX11_next_170 (fun v_686 hv_686 hf_687 => ?_)
                    obtain ⟨x_688, rfl, lx_688, ux_688⟩ := tt_vi hv_686
                    refine jj_icmp_ge (tgt := 186) C dX11_next_173 (by decide) (fun c_689 => ?_) (fun c_689 => ?_)
                    · have z_c_689 := jc_le (a := x_688.toInt) (b := x_8.toInt) c_689 rfl rfl
                      exact jj_vret C ⟨[], pl_655, rfl, rfl, hok_656, hfr, hfa, rfl⟩ dX11_next_186 (jj_le rfl) (jj_le rfl)
                    · have z_c_689 := jc_nle (a := x_688.toInt) (b := x_8.toInt) c_689 rfl rfl
                      refine jj_aload_n C dX11_next_176 rfl ?_
                      refine jj_dup C dX11_next_177 rfl ?_
                      refine tt_getF C hok_656 jk_12 15 (by decide) jw_165232ba7c (t := (0, 0, 400)) hk0 (by decide) rfl rfl hf_513 dX11_next_178 ?_
                      refine jj_iconst (v := 1) C dX11_next_181 (by decide) ?_
                      obtain ⟨x_690, ex_690, vx_690⟩ := tt_iadd (x := x_8) (y := (1 : Int32)) (a := x_8.toInt) rfl (b := 1) (by decide) (by omega) (by omega)
                      refine jj_iadd (v := x_690) C dX11_next_182 ex_690 ?_
                      refine rl_put C hok_656 jk_12 15 (by decide) jw_165232ba7c (t := (0, 0, 400)) hk0 (by decide) rfl rfl rfl (tt_iv (by omega) (by omega)) rfl rfl dX11_next_183 (fun pl_691 hok_692 tr hn tl => ?_)
                      replace hf_9 := tr _ _ _ (Or.inr (by decide)) hf_9
                      replace hf_687 := tr _ _ _ (Or.inr (by decide)) hf_687
                      have hf_693 := hn
                      replace hm := hm.put tr (by decide)
                      replace hfr := hfr.put hk0 tr (by decide)
                      replace hfa := hfa.all tl
                      exact jj_vret C ⟨[], pl_691, rfl, rfl, hok_692, hfr, hfa, rfl⟩ dX11_next_186 (jj_le rfl) (jj_le rfl)
                  · have z_c_676 := jc_nltL (a := y_671.toInt) (b := 48) c_676 rfl (by decide)
                    have z_c_677 := jc_nltL (a := 57) (b := y_671.toInt) c_677 (by decide) rfl
                    refine jj_if_eqF (tgt := 165) C dX11_next_128 (by decide) (by decide) ?_
                    have hL_694 : ∀ (N : Nat) (pl : va_W) (x_695 : Int32), True → tt_ok rt_tk cA Kd pl → tt_fr Kd [(1, 14), (1, 15)] pl0 pl → tt_fa Kd [] pl0 pl → rl_m pl h0 aw aa at0 ai af ap → tt_at pl h0 15 (.int x_695) → (0 : Int) ≤ x_695.toInt → x_695.toInt ≤ 400 → (401 - x_695.toInt ≤ (N : Int)) → jj_J p l e (jj_rm 1 25 0 0) s m args below meth c 1 A (vx_MQ below (jj_q D A (tt_O (fun rx pl1 r => rx = [] ∧ tt_ok rt_tk cA Kd pl1 ∧ tt_fr Kd [(1, 14), (1, 15)] pl0 pl1 ∧ tt_fa Kd [] pl0 pl1 ∧ ((r = none))))) (jj_x D A (tt_OX (fun _ _ _ => False))) args s 0 0 A) (jj_X D A ([] ++ pl)) 0 0 131 [(0, .ref h0)] [] := by
                      intro NL_694
                      induction NL_694 with
                      | zero => intro pl x_695 _ hok hfr hfa hm hf_696 lx_695 ux_695 hNL_694; exfalso; omega
                      | succ NL_694 ihL_694 =>
                        intro pl x_695 _ hok hfr hfa hm hf_696 lx_695 ux_695 hNL_694
                        replace ihL_694 := fun pl x_695 h1 => ihL_694 pl x_695 trivial h1
                        refine jj_aload_n C dX11_next_131 rfl ?_
                        refine jj_aload_n C dX11_next_132 rfl ?_
                        refine tt_getF C hok jk_12 15 (by decide) jw_165232ba7c (t := (0, 0, 400)) hk0 (by decide) rfl rfl hf_696 dX11_next_133 ?_
                        obtain ⟨qc, gs, hqc⟩ := tt_recv (cx := []) hok hk0 (by decide) rfl
                        refine tt_callV (rest := []) C (rc_X11_byteAt_4afdc3 hl D cA ak x_695 hk0 hkw hka hkt hki hkf hkp (by omega) (by omega) hok hm) [] [] rfl rfl (by decide) (by decide) (by decide) qc hqc rfl rfl jw_98db775389 jw_8e26deba02 jw_8ef34ac32e jw_f96c99f44d jw_4737f96f0a jn_X11_byteAt rfl (jj_le rfl) (jj_le rfl) (jj_le rfl) (jj_le rfl) (jj_le rfl) dX11_next_136 rfl (fun _ _ _ hX => hX.elim) (fun rx pl_697 r O_701 => ?_)
                        obtain ⟨rfl, hok_698, hr_699, ha_700, hR_702⟩ := O_701
                        replace hf_696 := hr_699.at hk0 (by decide) (by decide) hf_696
                        replace hm := hm.fr hr_699 hk0 rfl
                        replace hfr := hfr.trans (hr_699.sub (by decide))
                        replace hfa := hfa.trans (ha_700.sub (by decide))
                        rcases hR_702 with rfl | ⟨x_703, lx_703, ux_703, l_704, u_705, rfl⟩
                        · refine jj_i2l (v := (-1)) C dX11_next_139 (by decide) ?_
                          refine jj_ldc2 (v := 48) C dX11_next_140 jw_d6cfdd4319 ?_
                          refine jj_ldc2 (v := 57) C dX11_next_143 jw_8c7ed3b7a5 ?_
                          refine tt_call0S (rest := []) C (ct_X11_in_3 hl D cA ak) jw_2a24feddee jw_12f28ccfda jw_f96c99f44d jw_e07c9ada56 jn_X11_in rfl (jj_le rfl) (jj_le rfl) (jj_le rfl) (jj_le rfl) (jj_le rfl) dX11_next_146 rfl (fun w1 r O_706 => ?_)
                          obtain ⟨-, rfl⟩ := O_706
                          refine jj_if_eqT (tgt := 186) C dX11_next_149 (by decide) (by decide) ?_
                          exact jj_vret C ⟨[], pl_697, rfl, rfl, hok_698, hfr, hfa, rfl⟩ dX11_next_186 (jj_le rfl) (jj_le rfl)
                        · obtain ⟨y_707, ey_707, vy_707⟩ := tt_i2l x_703
                          refine jj_i2l (v := y_707) C dX11_next_139 ey_707 ?_
                          refine jj_ldc2 (v := 48) C dX11_next_140 jw_d6cfdd4319 ?_
                          refine jj_ldc2 (v := 57) C dX11_next_143 jw_8c7ed3b7a5 ?_
                          refine tt_call0S (rest := []) C (ct_X11_in_4 hl D cA ak y_707) jw_2a24feddee jw_12f28ccfda jw_f96c99f44d jw_e07c9ada56 jn_X11_in rfl (jj_le rfl) (jj_le rfl) (jj_le rfl) (jj_le rfl) (jj_le rfl) dX11_next_146 rfl (fun w1 r O_708 => ?_)
                          rcases O_708 with ⟨c_709, -, rfl⟩ | ⟨c_710, c_711, -, rfl⟩ | ⟨c_712, c_713, -, rfl⟩
                          · have z_c_709 := jc_ltL (a := y_707.toInt) (b := 48) c_709 rfl (by decide)
                            refine jj_if_eqT (tgt := 186) C dX11_next_149 (by decide) (by decide) ?_
                            exact jj_vret C ⟨[], pl_697, rfl, rfl, hok_698, hfr, hfa, rfl⟩ dX11_next_186 (jj_le rfl) (jj_le rfl)
                          · have z_c_710 := jc_nltL (a := y_707.toInt) (b := 48) c_710 rfl (by decide)
                            have z_c_711 := jc_ltL (a := 57) (b := y_707.toInt) c_711 (by decide) rfl
                            refine jj_if_eqT (tgt := 186) C dX11_next_149 (by decide) (by decide) ?_
                            exact jj_vret C ⟨[], pl_697, rfl, rfl, hok_698, hfr, hfa, rfl⟩ dX11_next_186 (jj_le rfl) (jj_le rfl)
                          · have z_c_712 := jc_nltL (a := y_707.toInt) (b := 48) c_712 rfl (by decide)
                            have z_c_713 := jc_nltL (a := 57) (b := y_707.toInt) c_713 (by decide) rfl
                            refine jj_if_eqF (tgt := 186) C dX11_next_149 (by decide) (by decide) ?_
                            refine jj_aload_n C dX11_next_152 rfl ?_
                            refine jj_dup C dX11_next_153 rfl ?_
                            refine tt_getF C hok_698 jk_12 15 (by decide) jw_165232ba7c (t := (0, 0, 400)) hk0 (by decide) rfl rfl hf_696 dX11_next_154 ?_
                            refine jj_iconst (v := 1) C dX11_next_157 (by decide) ?_
                            obtain ⟨x_714, ex_714, vx_714⟩ := tt_iadd (x := x_695) (y := (1 : Int32)) (a := x_695.toInt) rfl (b := 1) (by decide) (by omega) (by omega)
                            refine jj_iadd (v := x_714) C dX11_next_158 ex_714 ?_
                            refine rl_put C hok_698 jk_12 15 (by decide) jw_165232ba7c (t := (0, 0, 400)) hk0 (by decide) rfl rfl rfl (tt_iv (by omega) (by omega)) rfl rfl dX11_next_159 (fun pl_715 hok_716 tr hn tl => ?_)
                            have hf_717 := hn
                            replace hm := hm.put tr (by decide)
                            replace hfr := hfr.put hk0 tr (by decide)
                            replace hfa := hfa.all tl
                            refine jj_goto (tgt := 131) C dX11_next_162 (by decide) ?_
                            exact ihL_694 pl_715 x_714 hok_716 hfr hfa hm hf_717 (by first | omega | decide | exact tt_lo _ | exact tt_hi _) (by first | omega | decide | exact tt_lo _ | exact tt_hi _) (by first | omega | decide | exact tt_lo _ | exact tt_hi _)
                    exact hL_694 _ pl_655 x_8 trivial hok_656 hfr hfa hm hf_513 (by first | omega | decide | exact tt_lo _ | exact tt_hi _) (by first | omega | decide | exact tt_lo _ | exact tt_hi _) (Int.self_le_toNat _)
              · have z_c_590 := jc_nltL (a := y_585.toInt) (b := 97) c_590 rfl (by decide)
                have z_c_591 := jc_nltL (a := 122) (b := y_585.toInt) c_591 (by decide) rfl
                refine jj_if_eqF (tgt := 110) C dX11_next_73 (by decide) (by decide) ?_
                have hL_718 : ∀ (N : Nat) (pl : va_W) (x_719 : Int32), True → tt_ok rt_tk cA Kd pl → tt_fr Kd [(1, 14), (1, 15)] pl0 pl → tt_fa Kd [] pl0 pl → rl_m pl h0 aw aa at0 ai af ap → tt_at pl h0 15 (.int x_719) → (0 : Int) ≤ x_719.toInt → x_719.toInt ≤ 400 → (401 - x_719.toInt ≤ (N : Int)) → jj_J p l e (jj_rm 1 25 0 0) s m args below meth c 1 A (vx_MQ below (jj_q D A (tt_O (fun rx pl1 r => rx = [] ∧ tt_ok rt_tk cA Kd pl1 ∧ tt_fr Kd [(1, 14), (1, 15)] pl0 pl1 ∧ tt_fa Kd [] pl0 pl1 ∧ ((r = none))))) (jj_x D A (tt_OX (fun _ _ _ => False))) args s 0 0 A) (jj_X D A ([] ++ pl)) 0 0 76 [(0, .ref h0)] [] := by
                  intro NL_718
                  induction NL_718 with
                  | zero => intro pl x_719 _ hok hfr hfa hm hf_720 lx_719 ux_719 hNL_718; exfalso; omega
                  | succ NL_718 ihL_718 =>
                    intro pl x_719 _ hok hfr hfa hm hf_720 lx_719 ux_719 hNL_718
                    replace ihL_718 := fun pl x_719 h1 => ihL_718 pl x_719 trivial h1
                    refine jj_aload_n C dX11_next_76 rfl ?_
                    refine jj_aload_n C dX11_next_77 rfl ?_
                    refine tt_getF C hok jk_12 15 (by decide) jw_165232ba7c (t := (0, 0, 400)) hk0 (by decide) rfl rfl hf_720 dX11_next_78 ?_
                    obtain ⟨qc, gs, hqc⟩ := tt_recv (cx := []) hok hk0 (by decide) rfl
                    refine tt_callV (rest := []) C (rc_X11_byteAt_4afdc3 hl D cA ak x_719 hk0 hkw hka hkt hki hkf hkp (by omega) (by omega) hok hm) [] [] rfl rfl (by decide) (by decide) (by decide) qc hqc rfl rfl jw_98db775389 jw_8e26deba02 jw_8ef34ac32e jw_f96c99f44d jw_4737f96f0a jn_X11_byteAt rfl (jj_le rfl) (jj_le rfl) (jj_le rfl) (jj_le rfl) (jj_le rfl) dX11_next_81 rfl (fun _ _ _ hX => hX.elim) (fun rx pl_721 r O_725 => ?_)
                    obtain ⟨rfl, hok_722, hr_723, ha_724, hR_726⟩ := O_725
                    replace hf_720 := hr_723.at hk0 (by decide) (by decide) hf_720
                    replace hm := hm.fr hr_723 hk0 rfl
                    replace hfr := hfr.trans (hr_723.sub (by decide))
                    replace hfa := hfa.trans (ha_724.sub (by decide))
                    rcases hR_726 with rfl | ⟨x_727, lx_727, ux_727, l_728, u_729, rfl⟩
                    · refine jj_i2l (v := (-1)) C dX11_next_84 (by decide) ?_
                      refine jj_ldc2 (v := 97) C dX11_next_85 jw_39d46451b9 ?_
                      refine jj_ldc2 (v := 122) C dX11_next_88 jw_33d5fc8685 ?_
                      refine tt_call0S (rest := []) C (ct_X11_in_2 hl D cA ak) jw_2a24feddee jw_12f28ccfda jw_f96c99f44d jw_e07c9ada56 jn_X11_in rfl (jj_le rfl) (jj_le rfl) (jj_le rfl) (jj_le rfl) (jj_le rfl) dX11_next_91 rfl (fun w1 r O_730 => ?_)
                      obtain ⟨-, rfl⟩ := O_730
                      refine jj_if_eqT (tgt := 186) C dX11_next_94 (by decide) (by decide) ?_
                      exact jj_vret C ⟨[], pl_721, rfl, rfl, hok_722, hfr, hfa, rfl⟩ dX11_next_186 (jj_le rfl) (jj_le rfl)
                    · obtain ⟨y_731, ey_731, vy_731⟩ := tt_i2l x_727
                      refine jj_i2l (v := y_731) C dX11_next_84 ey_731 ?_
                      refine jj_ldc2 (v := 97) C dX11_next_85 jw_39d46451b9 ?_
                      refine jj_ldc2 (v := 122) C dX11_next_88 jw_33d5fc8685 ?_
                      refine tt_call0S (rest := []) C (ct_X11_in_5 hl D cA ak y_731) jw_2a24feddee jw_12f28ccfda jw_f96c99f44d jw_e07c9ada56 jn_X11_in rfl (jj_le rfl) (jj_le rfl) (jj_le rfl) (jj_le rfl) (jj_le rfl) dX11_next_91 rfl (fun w1 r O_732 => ?_)
                      rcases O_732 with ⟨c_733, -, rfl⟩ | ⟨c_734, c_735, -, rfl⟩ | ⟨c_736, c_737, -, rfl⟩
                      · have z_c_733 := jc_ltL (a := y_731.toInt) (b := 97) c_733 rfl (by decide)
                        refine jj_if_eqT (tgt := 186) C dX11_next_94 (by decide) (by decide) ?_
                        exact jj_vret C ⟨[], pl_721, rfl, rfl, hok_722, hfr, hfa, rfl⟩ dX11_next_186 (jj_le rfl) (jj_le rfl)
                      · have z_c_734 := jc_nltL (a := y_731.toInt) (b := 97) c_734 rfl (by decide)
                        have z_c_735 := jc_ltL (a := 122) (b := y_731.toInt) c_735 (by decide) rfl
                        refine jj_if_eqT (tgt := 186) C dX11_next_94 (by decide) (by decide) ?_
                        exact jj_vret C ⟨[], pl_721, rfl, rfl, hok_722, hfr, hfa, rfl⟩ dX11_next_186 (jj_le rfl) (jj_le rfl)
                      · have z_c_736 := jc_nltL (a := y_731.toInt) (b := 97) c_736 rfl (by decide)
                        have z_c_737 := jc_nltL (a := 122) (b := y_731.toInt) c_737 (by decide) rfl
                        refine jj_if_eqF (tgt := 186) C dX11_next_94 (by decide) (by decide) ?_
                        refine jj_aload_n C dX11_next_97 rfl ?_
                        refine jj_dup C dX11_next_98 rfl ?_
                        refine tt_getF C hok_722 jk_12 15 (by decide) jw_165232ba7c (t := (0, 0, 400)) hk0 (by decide) rfl rfl hf_720 dX11_next_99 ?_
                        refine jj_iconst (v := 1) C dX11_next_102 (by decide) ?_
                        obtain ⟨x_738, ex_738, vx_738⟩ := tt_iadd (x := x_719) (y := (1 : Int32)) (a := x_719.toInt) rfl (b := 1) (by decide) (by omega) (by omega)
                        refine jj_iadd (v := x_738) C dX11_next_103 ex_738 ?_
                        refine rl_put C hok_722 jk_12 15 (by decide) jw_165232ba7c (t := (0, 0, 400)) hk0 (by decide) rfl rfl rfl (tt_iv (by omega) (by omega)) rfl rfl dX11_next_104 (fun pl_739 hok_740 tr hn tl => ?_)
                        have hf_741 := hn
                        replace hm := hm.put tr (by decide)
                        replace hfr := hfr.put hk0 tr (by decide)
                        replace hfa := hfa.all tl
                        refine jj_goto (tgt := 76) C dX11_next_107 (by decide) ?_
                        exact ihL_718 pl_739 x_738 hok_740 hfr hfa hm hf_741 (by first | omega | decide | exact tt_lo _ | exact tt_hi _) (by first | omega | decide | exact tt_lo _ | exact tt_hi _) (by first | omega | decide | exact tt_lo _ | exact tt_hi _)
                exact hL_718 _ pl_514 x_8 trivial hok_515 hfr hfa hm hf_513 (by first | omega | decide | exact tt_lo _ | exact tt_hi _) (by first | omega | decide | exact tt_lo _ | exact tt_hi _) (Int.self_le_toNat _)
          · refine jj_bipush (v := 10) C dX11_next_29 (by decide) ?_
            refine jj_icmp_ne (tgt := 47) C dX11_next_31 (by decide) (fun c_742 => ?_) (fun c_742 => ?_)
            · have z_c_742 := jc_neq (a := x_510.toInt) (b := 10) c_742 rfl (by decide)
              refine jj_aload_n C dX11_next_47 rfl ?_
              refine jj_aload_n C dX11_next_48 rfl ?_
              refine tt_getF C hok_505 jk_12 14 (by decide) jw_6446e1fd81 (t := (0, 0, 400)) hk0 (by decide) rfl rfl hf_9 dX11_next_49 ?_
              refine rl_put C hok_505 jk_12 15 (by decide) jw_165232ba7c (t := (0, 0, 400)) hk0 (by decide) rfl rfl rfl (tt_iv (by omega) (by omega)) rfl rfl dX11_next_52 (fun pl_743 hok_744 tr hn tl => ?_)
              replace hf_9 := tr _ _ _ (Or.inr (by decide)) hf_9
              have hf_745 := hn
              replace hm := hm.put tr (by decide)
              replace hfr := hfr.put hk0 tr (by decide)
              replace hfa := hfa.all tl
              refine jj_aload_n C dX11_next_55 rfl ?_
              refine jj_aload_n C dX11_next_56 rfl ?_
              refine tt_getF C hok_744 jk_12 15 (by decide) jw_165232ba7c (t := (0, 0, 400)) hk0 (by decide) rfl rfl hf_745 dX11_next_57 ?_
              obtain ⟨qc, gs, hqc⟩ := tt_recv (cx := []) hok_744 hk0 (by decide) rfl
              refine tt_callV (rest := []) C (rc_X11_byteAt_f5f728 hl D cA ak x_8 hk0 hkw hka hkt hki hkf hkp (by omega) (by omega) hok_744 hm) [] [] rfl rfl (by decide) (by decide) (by decide) qc hqc rfl rfl jw_98db775389 jw_8e26deba02 jw_8ef34ac32e jw_f96c99f44d jw_4737f96f0a jn_X11_byteAt rfl (jj_le rfl) (jj_le rfl) (jj_le rfl) (jj_le rfl) (jj_le rfl) dX11_next_60 rfl (fun _ _ _ hX => hX.elim) (fun rx pl_746 r O_750 => ?_)
              obtain ⟨rfl, hok_747, hr_748, ha_749, hR_751⟩ := O_750
              replace hf_9 := hr_748.at hk0 (by decide) (by decide) hf_9
              replace hf_745 := hr_748.at hk0 (by decide) (by decide) hf_745
              replace hm := hm.fr hr_748 hk0 rfl
              replace hfr := hfr.trans (hr_748.sub (by decide))
              replace hfa := hfa.trans (ha_749.sub (by decide))
              rcases hR_751 with rfl | ⟨x_752, lx_752, ux_752, rfl⟩
              · refine jj_i2l (v := (-1)) C dX11_next_63 (by decide) ?_
                refine jj_ldc2 (v := 97) C dX11_next_64 jw_39d46451b9 ?_
                refine jj_ldc2 (v := 122) C dX11_next_67 jw_33d5fc8685 ?_
                refine tt_call0S (rest := []) C (ct_X11_in_2 hl D cA ak) jw_2a24feddee jw_12f28ccfda jw_f96c99f44d jw_e07c9ada56 jn_X11_in rfl (jj_le rfl) (jj_le rfl) (jj_le rfl) (jj_le rfl) (jj_le rfl) dX11_next_70 rfl (fun w1 r O_753 => ?_)
                obtain ⟨-, rfl⟩ := O_753
                refine jj_if_eqT (tgt := 110) C dX11_next_73 (by decide) (by decide) ?_
                refine jj_aload_n C dX11_next_110 rfl ?_
                refine jj_aload_n C dX11_next_111 rfl ?_
                refine tt_getF C hok_747 jk_12 15 (by decide) jw_165232ba7c (t := (0, 0, 400)) hk0 (by decide) rfl rfl hf_745 dX11_next_112 ?_
                obtain ⟨qc, gs, hqc⟩ := tt_recv (cx := []) hok_747 hk0 (by decide) rfl
                refine tt_callV (rest := []) C (rc_X11_byteAt_f5f728 hl D cA ak x_8 hk0 hkw hka hkt hki hkf hkp (by omega) (by omega) hok_747 hm) [] [] rfl rfl (by decide) (by decide) (by decide) qc hqc rfl rfl jw_98db775389 jw_8e26deba02 jw_8ef34ac32e jw_f96c99f44d jw_4737f96f0a jn_X11_byteAt rfl (jj_le rfl) (jj_le rfl) (jj_le rfl) (jj_le rfl) (jj_le rfl) dX11_next_115 rfl (fun _ _ _ hX => hX.elim) (fun rx pl_754 r O_758 => ?_)
                obtain ⟨rfl, hok_755, hr_756, ha_757, hR_759⟩ := O_758
                replace hf_9 := hr_756.at hk0 (by decide) (by decide) hf_9
                replace hf_745 := hr_756.at hk0 (by decide) (by decide) hf_745
                replace hm := hm.fr hr_756 hk0 rfl
                replace hfr := hfr.trans (hr_756.sub (by decide))
                replace hfa := hfa.trans (ha_757.sub (by decide))
                rcases hR_759 with rfl | ⟨x_760, lx_760, ux_760, rfl⟩
                · refine jj_i2l (v := (-1)) C dX11_next_118 (by decide) ?_
                  refine jj_ldc2 (v := 48) C dX11_next_119 jw_d6cfdd4319 ?_
                  refine jj_ldc2 (v := 57) C dX11_next_122 jw_8c7ed3b7a5 ?_
                  refine tt_call0S (rest := []) C (ct_X11_in_3 hl D cA ak) jw_2a24feddee jw_12f28ccfda jw_f96c99f44d jw_e07c9ada56 jn_X11_in rfl (jj_le rfl) (jj_le rfl) (jj_le rfl) (jj_le rfl) (jj_le rfl) dX11_next_125 rfl (fun w1 r O_761 => ?_)
                  obtain ⟨-, rfl⟩ := O_761
                  refine jj_if_eqT (tgt := 165) C dX11_next_128 (by decide) (by decide) ?_
                  refine jj_aload_n C dX11_next_165 rfl ?_
                  refine tt_getF C hok_755 jk_12 15 (by decide) jw_165232ba7c (t := (0, 0, 400)) hk0 (by decide) rfl rfl hf_745 dX11_next_166 ?_
                  refine jj_aload_n C dX11_next_169 rfl ?_
                  refine tt_get C hok_755 jk_12 16 (by decide) jw_28b46cb90c (t := (0, 0, 400)) hk0 (by decide) rfl rfl dX11_next_170 (fun v_762 hv_762 hf_763 => ?_)
                  obtain ⟨x_764, rfl, lx_764, ux_764⟩ := tt_vi hv_762
                  refine jj_icmp_ge (tgt := 186) C dX11_next_173 (by decide) (fun c_765 => ?_) (fun c_765 => ?_)
                  · have z_c_765 := jc_le (a := x_764.toInt) (b := x_8.toInt) c_765 rfl rfl
                    exact jj_vret C ⟨[], pl_754, rfl, rfl, hok_755, hfr, hfa, rfl⟩ dX11_next_186 (jj_le rfl) (jj_le rfl)
                  · have z_c_765 := jc_nle (a := x_764.toInt) (b := x_8.toInt) c_765 rfl rfl
                    refine jj_aload_n C dX11_next_176 rfl ?_
                    refine jj_dup C dX11_next_177 rfl ?_
                    refine tt_getF C hok_755 jk_12 15 (by decide) jw_165232ba7c (t := (0, 0, 400)) hk0 (by decide) rfl rfl hf_745 dX11_next_178 ?_
                    refine jj_iconst (v := 1) C dX11_next_181 (by decide) ?_
                    obtain ⟨x_766, ex_766, vx_766⟩ := tt_iadd (x := x_8) (y := (1 : Int32)) (a := x_8.toInt) rfl (b := 1) (by decide) (by omega) (by omega)
                    refine jj_iadd (v := x_766) C dX11_next_182 ex_766 ?_
                    refine rl_put C hok_755 jk_12 15 (by decide) jw_165232ba7c (t := (0, 0, 400)) hk0 (by decide) rfl rfl rfl (tt_iv (by omega) (by omega)) rfl rfl dX11_next_183 (fun pl_767 hok_768 tr hn tl => ?_)
                    replace hf_9 := tr _ _ _ (Or.inr (by decide)) hf_9
                    replace hf_763 := tr _ _ _ (Or.inr (by decide)) hf_763
                    have hf_769 := hn
                    replace hm := hm.put tr (by decide)
                    replace hfr := hfr.put hk0 tr (by decide)
                    replace hfa := hfa.all tl
                    exact jj_vret C ⟨[], pl_767, rfl, rfl, hok_768, hfr, hfa, rfl⟩ dX11_next_186 (jj_le rfl) (jj_le rfl)
                · obtain ⟨y_770, ey_770, vy_770⟩ := tt_i2l x_760
                  refine jj_i2l (v := y_770) C dX11_next_118 ey_770 ?_
                  refine jj_ldc2 (v := 48) C dX11_next_119 jw_d6cfdd4319 ?_
                  refine jj_ldc2 (v := 57) C dX11_next_122 jw_8c7ed3b7a5 ?_
                  refine tt_call0S (rest := []) C (ct_X11_in_4 hl D cA ak y_770) jw_2a24feddee jw_12f28ccfda jw_f96c99f44d jw_e07c9ada56 jn_X11_in rfl (jj_le rfl) (jj_le rfl) (jj_le rfl) (jj_le rfl) (jj_le rfl) dX11_next_125 rfl (fun w1 r O_771 => ?_)
                  rcases O_771 with ⟨c_772, -, rfl⟩ | ⟨c_773, c_774, -, rfl⟩ | ⟨c_775, c_776, -, rfl⟩
                  · have z_c_772 := jc_ltL (a := y_770.toInt) (b := 48) c_772 rfl (by decide)
                    refine jj_if_eqT (tgt := 165) C dX11_next_128 (by decide) (by decide) ?_
                    refine jj_aload_n C dX11_next_165 rfl ?_
                    refine tt_getF C hok_755 jk_12 15 (by decide) jw_165232ba7c (t := (0, 0, 400)) hk0 (by decide) rfl rfl hf_745 dX11_next_166 ?_
                    refine jj_aload_n C dX11_next_169 rfl ?_
                    refine tt_get C hok_755 jk_12 16 (by decide) jw_28b46cb90c (t := (0, 0, 400)) hk0 (by decide) rfl rfl dX11_next_170 (fun v_777 hv_777 hf_778 => ?_)
                    obtain ⟨x_779, rfl, lx_779, ux_779⟩ := tt_vi hv_777
                    refine jj_icmp_ge (tgt := 186) C dX11_next_173 (by decide) (fun c_780 => ?_) (fun c_780 => ?_)
                    · have z_c_780 := jc_le (a := x_779.toInt) (b := x_8.toInt) c_780 rfl rfl
                      exact jj_vret C ⟨[], pl_754, rfl, rfl, hok_755, hfr, hfa, rfl⟩ dX11_next_186 (jj_le rfl) (jj_le rfl)
                    · have z_c_780 := jc_nle (a := x_779.toInt) (b := x_8.toInt) c_780 rfl rfl
                      refine jj_aload_n C dX11_next_176 rfl ?_
                      refine jj_dup C dX11_next_177 rfl ?_
                      refine tt_getF C hok_755 jk_12 15 (by decide) jw_165232ba7c (t := (0, 0, 400)) hk0 (by decide) rfl rfl hf_745 dX11_next_178 ?_
                      refine jj_iconst (v := 1) C dX11_next_181 (by decide) ?_
                      obtain ⟨x_781, ex_781, vx_781⟩ := tt_iadd (x := x_8) (y := (1 : Int32)) (a := x_8.toInt) rfl (b := 1) (by decide) (by omega) (by omega)
                      refine jj_iadd (v := x_781) C dX11_next_182 ex_781 ?_
                      refine rl_put C hok_755 jk_12 15 (by decide) jw_165232ba7c (t := (0, 0, 400)) hk0 (by decide) rfl rfl rfl (tt_iv (by omega) (by omega)) rfl rfl dX11_next_183 (fun pl_782 hok_783 tr hn tl => ?_)
                      replace hf_9 := tr _ _ _ (Or.inr (by decide)) hf_9
                      replace hf_778 := tr _ _ _ (Or.inr (by decide)) hf_778
                      have hf_784 := hn
                      replace hm := hm.put tr (by decide)
                      replace hfr := hfr.put hk0 tr (by decide)
                      replace hfa := hfa.all tl
                      exact jj_vret C ⟨[], pl_782, rfl, rfl, hok_783, hfr, hfa, rfl⟩ dX11_next_186 (jj_le rfl) (jj_le rfl)
                  · have z_c_773 := jc_nltL (a := y_770.toInt) (b := 48) c_773 rfl (by decide)
                    have z_c_774 := jc_ltL (a := 57) (b := y_770.toInt) c_774 (by decide) rfl
                    refine jj_if_eqT (tgt := 165) C dX11_next_128 (by decide) (by decide) ?_
                    refine jj_aload_n C dX11_next_165 rfl ?_
                    refine tt_getF C hok_755 jk_12 15 (by decide) jw_165232ba7c (t := (0, 0, 400)) hk0 (by decide) rfl rfl hf_745 dX11_next_166 ?_
                    refine jj_aload_n C dX11_next_169 rfl ?_
                    refine tt_get C hok_755 jk_12 16 (by decide) jw_28b46cb90c (t := (0, 0, 400)) hk0 (by decide) rfl rfl dX11_next_170 (fun v_785 hv_785 hf_786 => ?_)
                    obtain ⟨x_787, rfl, lx_787, ux_787⟩ := tt_vi hv_785
                    refine jj_icmp_ge (tgt := 186) C dX11_next_173 (by decide) (fun c_788 => ?_) (fun c_788 => ?_)
                    · have z_c_788 := jc_le (a := x_787.toInt) (b := x_8.toInt) c_788 rfl rfl
                      exact jj_vret C ⟨[], pl_754, rfl, rfl, hok_755, hfr, hfa, rfl⟩ dX11_next_186 (jj_le rfl) (jj_le rfl)
                    · have z_c_788 := jc_nle (a := x_787.toInt) (b := x_8.toInt) c_788 rfl rfl
                      refine jj_aload_n C dX11_next_176 rfl ?_
                      refine jj_dup C dX11_next_177 rfl ?_
                      refine tt_getF C hok_755 jk_12 15 (by decide) jw_165232ba7c (t := (0, 0, 400)) hk0 (by decide) rfl rfl hf_745 dX11_next_178 ?_
                      refine jj_iconst (v := 1) C dX11_next_181 (by decide) ?_
                      obtain ⟨x_789, ex_789, vx_789⟩ := tt_iadd (x := x_8) (y := (1 : Int32)) (a := x_8.toInt) rfl (b := 1) (by decide) (by omega) (by omega)
                      refine jj_iadd (v := x_789) C dX11_next_182 ex_789 ?_
                      refine rl_put C hok_755 jk_12 15 (by decide) jw_165232ba7c (t := (0, 0, 400)) hk0 (by decide) rfl rfl rfl (tt_iv (by omega) (by omega)) rfl rfl dX11_next_183 (fun pl_790 hok_791 tr hn tl => ?_)
                      replace hf_9 := tr _ _ _ (Or.inr (by decide)) hf_9
                      replace hf_786 := tr _ _ _ (Or.inr (by decide)) hf_786
                      have hf_792 := hn
                      replace hm := hm.put tr (by decide)
                      replace hfr := hfr.put hk0 tr (by decide)
                      replace hfa := hfa.all tl
                      exact jj_vret C ⟨[], pl_790, rfl, rfl, hok_791, hfr, hfa, rfl⟩ dX11_next_186 (jj_le rfl) (jj_le rfl)
                  · have z_c_775 := jc_nltL (a := y_770.toInt) (b := 48) c_775 rfl (by decide)
                    have z_c_776 := jc_nltL (a := 57) (b := y_770.toInt) c_776 (by decide) rfl
                    refine jj_if_eqF (tgt := 165) C dX11_next_128 (by decide) (by decide) ?_
                    have hL_793 : ∀ (N : Nat) (pl : va_W) (x_794 : Int32), True → tt_ok rt_tk cA Kd pl → tt_fr Kd [(1, 14), (1, 15)] pl0 pl → tt_fa Kd [] pl0 pl → rl_m pl h0 aw aa at0 ai af ap → tt_at pl h0 15 (.int x_794) → (0 : Int) ≤ x_794.toInt → x_794.toInt ≤ 400 → (401 - x_794.toInt ≤ (N : Int)) → jj_J p l e (jj_rm 1 25 0 0) s m args below meth c 1 A (vx_MQ below (jj_q D A (tt_O (fun rx pl1 r => rx = [] ∧ tt_ok rt_tk cA Kd pl1 ∧ tt_fr Kd [(1, 14), (1, 15)] pl0 pl1 ∧ tt_fa Kd [] pl0 pl1 ∧ ((r = none))))) (jj_x D A (tt_OX (fun _ _ _ => False))) args s 0 0 A) (jj_X D A ([] ++ pl)) 0 0 131 [(0, .ref h0)] [] := by
                      intro NL_793
                      induction NL_793 with
                      | zero => intro pl x_794 _ hok hfr hfa hm hf_795 lx_794 ux_794 hNL_793; exfalso; omega
                      | succ NL_793 ihL_793 =>
                        intro pl x_794 _ hok hfr hfa hm hf_795 lx_794 ux_794 hNL_793
                        replace ihL_793 := fun pl x_794 h1 => ihL_793 pl x_794 trivial h1
                        refine jj_aload_n C dX11_next_131 rfl ?_
                        refine jj_aload_n C dX11_next_132 rfl ?_
                        refine tt_getF C hok jk_12 15 (by decide) jw_165232ba7c (t := (0, 0, 400)) hk0 (by decide) rfl rfl hf_795 dX11_next_133 ?_
                        obtain ⟨qc, gs, hqc⟩ := tt_recv (cx := []) hok hk0 (by decide) rfl
                        refine tt_callV (rest := []) C (rc_X11_byteAt_4afdc3 hl D cA ak x_794 hk0 hkw hka hkt hki hkf hkp (by omega) (by omega) hok hm) [] [] rfl rfl (by decide) (by decide) (by decide) qc hqc rfl rfl jw_98db775389 jw_8e26deba02 jw_8ef34ac32e jw_f96c99f44d jw_4737f96f0a jn_X11_byteAt rfl (jj_le rfl) (jj_le rfl) (jj_le rfl) (jj_le rfl) (jj_le rfl) dX11_next_136 rfl (fun _ _ _ hX => hX.elim) (fun rx pl_796 r O_800 => ?_)
                        obtain ⟨rfl, hok_797, hr_798, ha_799, hR_801⟩ := O_800
                        replace hf_795 := hr_798.at hk0 (by decide) (by decide) hf_795
                        replace hm := hm.fr hr_798 hk0 rfl
                        replace hfr := hfr.trans (hr_798.sub (by decide))
                        replace hfa := hfa.trans (ha_799.sub (by decide))
                        rcases hR_801 with rfl | ⟨x_802, lx_802, ux_802, l_803, u_804, rfl⟩
                        · refine jj_i2l (v := (-1)) C dX11_next_139 (by decide) ?_
                          refine jj_ldc2 (v := 48) C dX11_next_140 jw_d6cfdd4319 ?_
                          refine jj_ldc2 (v := 57) C dX11_next_143 jw_8c7ed3b7a5 ?_
                          refine tt_call0S (rest := []) C (ct_X11_in_3 hl D cA ak) jw_2a24feddee jw_12f28ccfda jw_f96c99f44d jw_e07c9ada56 jn_X11_in rfl (jj_le rfl) (jj_le rfl) (jj_le rfl) (jj_le rfl) (jj_le rfl) dX11_next_146 rfl (fun w1 r O_805 => ?_)
                          obtain ⟨-, rfl⟩ := O_805
                          refine jj_if_eqT (tgt := 186) C dX11_next_149 (by decide) (by decide) ?_
                          exact jj_vret C ⟨[], pl_796, rfl, rfl, hok_797, hfr, hfa, rfl⟩ dX11_next_186 (jj_le rfl) (jj_le rfl)
                        · obtain ⟨y_806, ey_806, vy_806⟩ := tt_i2l x_802
                          refine jj_i2l (v := y_806) C dX11_next_139 ey_806 ?_
                          refine jj_ldc2 (v := 48) C dX11_next_140 jw_d6cfdd4319 ?_
                          refine jj_ldc2 (v := 57) C dX11_next_143 jw_8c7ed3b7a5 ?_
                          refine tt_call0S (rest := []) C (ct_X11_in_4 hl D cA ak y_806) jw_2a24feddee jw_12f28ccfda jw_f96c99f44d jw_e07c9ada56 jn_X11_in rfl (jj_le rfl) (jj_le rfl) (jj_le rfl) (jj_le rfl) (jj_le rfl) dX11_next_146 rfl (fun w1 r O_807 => ?_)
                          rcases O_807 with ⟨c_808, -, rfl⟩ | ⟨c_809, c_810, -, rfl⟩ | ⟨c_811, c_812, -, rfl⟩
                          · have z_c_808 := jc_ltL (a := y_806.toInt) (b := 48) c_808 rfl (by decide)
                            refine jj_if_eqT (tgt := 186) C dX11_next_149 (by decide) (by decide) ?_
                            exact jj_vret C ⟨[], pl_796, rfl, rfl, hok_797, hfr, hfa, rfl⟩ dX11_next_186 (jj_le rfl) (jj_le rfl)
                          · have z_c_809 := jc_nltL (a := y_806.toInt) (b := 48) c_809 rfl (by decide)
                            have z_c_810 := jc_ltL (a := 57) (b := y_806.toInt) c_810 (by decide) rfl
                            refine jj_if_eqT (tgt := 186) C dX11_next_149 (by decide) (by decide) ?_
                            exact jj_vret C ⟨[], pl_796, rfl, rfl, hok_797, hfr, hfa, rfl⟩ dX11_next_186 (jj_le rfl) (jj_le rfl)
                          · have z_c_811 := jc_nltL (a := y_806.toInt) (b := 48) c_811 rfl (by decide)
                            have z_c_812 := jc_nltL (a := 57) (b := y_806.toInt) c_812 (by decide) rfl
                            refine jj_if_eqF (tgt := 186) C dX11_next_149 (by decide) (by decide) ?_
                            refine jj_aload_n C dX11_next_152 rfl ?_
                            refine jj_dup C dX11_next_153 rfl ?_
                            refine tt_getF C hok_797 jk_12 15 (by decide) jw_165232ba7c (t := (0, 0, 400)) hk0 (by decide) rfl rfl hf_795 dX11_next_154 ?_
                            refine jj_iconst (v := 1) C dX11_next_157 (by decide) ?_
                            obtain ⟨x_813, ex_813, vx_813⟩ := tt_iadd (x := x_794) (y := (1 : Int32)) (a := x_794.toInt) rfl (b := 1) (by decide) (by omega) (by omega)
                            refine jj_iadd (v := x_813) C dX11_next_158 ex_813 ?_
                            refine rl_put C hok_797 jk_12 15 (by decide) jw_165232ba7c (t := (0, 0, 400)) hk0 (by decide) rfl rfl rfl (tt_iv (by omega) (by omega)) rfl rfl dX11_next_159 (fun pl_814 hok_815 tr hn tl => ?_)
                            have hf_816 := hn
                            replace hm := hm.put tr (by decide)
                            replace hfr := hfr.put hk0 tr (by decide)
                            replace hfa := hfa.all tl
                            refine jj_goto (tgt := 131) C dX11_next_162 (by decide) ?_
                            exact ihL_793 pl_814 x_813 hok_815 hfr hfa hm hf_816 (by first | omega | decide | exact tt_lo _ | exact tt_hi _) (by first | omega | decide | exact tt_lo _ | exact tt_hi _) (by first | omega | decide | exact tt_lo _ | exact tt_hi _)
                    exact hL_793 _ pl_754 x_8 trivial hok_755 hfr hfa hm hf_745 (by first | omega | decide | exact tt_lo _ | exact tt_hi _) (by first | omega | decide | exact tt_lo _ | exact tt_hi _) (Int.self_le_toNat _)
              · obtain ⟨y_817, ey_817, vy_817⟩ := tt_i2l x_752
                refine jj_i2l (v := y_817) C dX11_next_63 ey_817 ?_
                refine jj_ldc2 (v := 97) C dX11_next_64 jw_39d46451b9 ?_
                refine jj_ldc2 (v := 122) C dX11_next_67 jw_33d5fc8685 ?_
                refine tt_call0S (rest := []) C (ct_X11_in_5 hl D cA ak y_817) jw_2a24feddee jw_12f28ccfda jw_f96c99f44d jw_e07c9ada56 jn_X11_in rfl (jj_le rfl) (jj_le rfl) (jj_le rfl) (jj_le rfl) (jj_le rfl) dX11_next_70 rfl (fun w1 r O_818 => ?_)
                rcases O_818 with ⟨c_819, -, rfl⟩ | ⟨c_820, c_821, -, rfl⟩ | ⟨c_822, c_823, -, rfl⟩
                · have z_c_819 := jc_ltL (a := y_817.toInt) (b := 97) c_819 rfl (by decide)
                  refine jj_if_eqT (tgt := 110) C dX11_next_73 (by decide) (by decide) ?_
                  refine jj_aload_n C dX11_next_110 rfl ?_
                  refine jj_aload_n C dX11_next_111 rfl ?_
                  refine tt_getF C hok_747 jk_12 15 (by decide) jw_165232ba7c (t := (0, 0, 400)) hk0 (by decide) rfl rfl hf_745 dX11_next_112 ?_
                  obtain ⟨qc, gs, hqc⟩ := tt_recv (cx := []) hok_747 hk0 (by decide) rfl
                  refine tt_callV (rest := []) C (rc_X11_byteAt_f5f728 hl D cA ak x_8 hk0 hkw hka hkt hki hkf hkp (by omega) (by omega) hok_747 hm) [] [] rfl rfl (by decide) (by decide) (by decide) qc hqc rfl rfl jw_98db775389 jw_8e26deba02 jw_8ef34ac32e jw_f96c99f44d jw_4737f96f0a jn_X11_byteAt rfl (jj_le rfl) (jj_le rfl) (jj_le rfl) (jj_le rfl) (jj_le rfl) dX11_next_115 rfl (fun _ _ _ hX => hX.elim) (fun rx pl_824 r O_828 => ?_)
                  obtain ⟨rfl, hok_825, hr_826, ha_827, hR_829⟩ := O_828
                  replace hf_9 := hr_826.at hk0 (by decide) (by decide) hf_9
                  replace hf_745 := hr_826.at hk0 (by decide) (by decide) hf_745
                  replace hm := hm.fr hr_826 hk0 rfl
                  replace hfr := hfr.trans (hr_826.sub (by decide))
                  replace hfa := hfa.trans (ha_827.sub (by decide))
                  rcases hR_829 with rfl | ⟨x_830, lx_830, ux_830, rfl⟩
                  · refine jj_i2l (v := (-1)) C dX11_next_118 (by decide) ?_
                    refine jj_ldc2 (v := 48) C dX11_next_119 jw_d6cfdd4319 ?_
                    refine jj_ldc2 (v := 57) C dX11_next_122 jw_8c7ed3b7a5 ?_
                    refine tt_call0S (rest := []) C (ct_X11_in_3 hl D cA ak) jw_2a24feddee jw_12f28ccfda jw_f96c99f44d jw_e07c9ada56 jn_X11_in rfl (jj_le rfl) (jj_le rfl) (jj_le rfl) (jj_le rfl) (jj_le rfl) dX11_next_125 rfl (fun w1 r O_831 => ?_)
                    obtain ⟨-, rfl⟩ := O_831
                    refine jj_if_eqT (tgt := 165) C dX11_next_128 (by decide) (by decide) ?_
                    refine jj_aload_n C dX11_next_165 rfl ?_
                    refine tt_getF C hok_825 jk_12 15 (by decide) jw_165232ba7c (t := (0, 0, 400)) hk0 (by decide) rfl rfl hf_745 dX11_next_166 ?_
                    refine jj_aload_n C dX11_next_169 rfl ?_
                    refine tt_get C hok_825 jk_12 16 (by decide) jw_28b46cb90c (t := (0, 0, 400)) hk0 (by decide) rfl rfl dX11_next_170 (fun v_832 hv_832 hf_833 => ?_)
                    obtain ⟨x_834, rfl, lx_834, ux_834⟩ := tt_vi hv_832
                    refine jj_icmp_ge (tgt := 186) C dX11_next_173 (by decide) (fun c_835 => ?_) (fun c_835 => ?_)
                    · have z_c_835 := jc_le (a := x_834.toInt) (b := x_8.toInt) c_835 rfl rfl
                      exact jj_vret C ⟨[], pl_824, rfl, rfl, hok_825, hfr, hfa, rfl⟩ dX11_next_186 (jj_le rfl) (jj_le rfl)
                    · have z_c_835 := jc_nle (a := x_834.toInt) (b := x_8.toInt) c_835 rfl rfl
                      refine jj_aload_n C dX11_next_176 rfl ?_
                      refine jj_dup C dX11_next_177 rfl ?_
                      refine tt_getF C hok_825 jk_12 15 (by decide) jw_165232ba7c (t := (0, 0, 400)) hk0 (by decide) rfl rfl hf_745 dX11_next_178 ?_
                      refine jj_iconst (v := 1) C dX11_next_181 (by decide) ?_
                      obtain ⟨x_836, ex_836, vx_836⟩ := tt_iadd (x := x_8) (y := (1 : Int32)) (a := x_8.toInt) rfl (b := 1) (by decide) (by omega) (by omega)
                      refine jj_iadd (v := x_836) C dX11_next_182 ex_836 ?_
                      refine rl_put C hok_825 jk_12 15 (by decide) jw_165232ba7c (t := (0, 0, 400)) hk0 (by decide) rfl rfl rfl (tt_iv (by omega) (by omega)) rfl rfl dX11_next_183 (fun pl_837 hok_838 tr hn tl => ?_)
                      replace hf_9 := tr _ _ _ (Or.inr (by decide)) hf_9
                      replace hf_833 := tr _ _ _ (Or.inr (by decide)) hf_833
                      have hf_839 := hn
                      replace hm := hm.put tr (by decide)
                      replace hfr := hfr.put hk0 tr (by decide)
                      replace hfa := hfa.all tl
                      exact jj_vret C ⟨[], pl_837, rfl, rfl, hok_838, hfr, hfa, rfl⟩ dX11_next_186 (jj_le rfl) (jj_le rfl)
                  · obtain ⟨y_840, ey_840, vy_840⟩ := tt_i2l x_830
                    refine jj_i2l (v := y_840) C dX11_next_118 ey_840 ?_
                    refine jj_ldc2 (v := 48) C dX11_next_119 jw_d6cfdd4319 ?_
                    refine jj_ldc2 (v := 57) C dX11_next_122 jw_8c7ed3b7a5 ?_
                    refine tt_call0S (rest := []) C (ct_X11_in_4 hl D cA ak y_840) jw_2a24feddee jw_12f28ccfda jw_f96c99f44d jw_e07c9ada56 jn_X11_in rfl (jj_le rfl) (jj_le rfl) (jj_le rfl) (jj_le rfl) (jj_le rfl) dX11_next_125 rfl (fun w1 r O_841 => ?_)
                    rcases O_841 with ⟨c_842, -, rfl⟩ | ⟨c_843, c_844, -, rfl⟩ | ⟨c_845, c_846, -, rfl⟩
                    · have z_c_842 := jc_ltL (a := y_840.toInt) (b := 48) c_842 rfl (by decide)
                      refine jj_if_eqT (tgt := 165) C dX11_next_128 (by decide) (by decide) ?_
                      refine jj_aload_n C dX11_next_165 rfl ?_
                      refine tt_getF C hok_825 jk_12 15 (by decide) jw_165232ba7c (t := (0, 0, 400)) hk0 (by decide) rfl rfl hf_745 dX11_next_166 ?_
                      refine jj_aload_n C dX11_next_169 rfl ?_
                      refine tt_get C hok_825 jk_12 16 (by decide) jw_28b46cb90c (t := (0, 0, 400)) hk0 (by decide) rfl rfl dX11_next_170 (fun v_847 hv_847 hf_848 => ?_)
                      obtain ⟨x_849, rfl, lx_849, ux_849⟩ := tt_vi hv_847
                      refine jj_icmp_ge (tgt := 186) C dX11_next_173 (by decide) (fun c_850 => ?_) (fun c_850 => ?_)
                      · have z_c_850 := jc_le (a := x_849.toInt) (b := x_8.toInt) c_850 rfl rfl
                        exact jj_vret C ⟨[], pl_824, rfl, rfl, hok_825, hfr, hfa, rfl⟩ dX11_next_186 (jj_le rfl) (jj_le rfl)
                      · have z_c_850 := jc_nle (a := x_849.toInt) (b := x_8.toInt) c_850 rfl rfl
                        refine jj_aload_n C dX11_next_176 rfl ?_
                        refine jj_dup C dX11_next_177 rfl ?_
                        refine tt_getF C hok_825 jk_12 15 (by decide) jw_165232ba7c (t := (0, 0, 400)) hk0 (by decide) rfl rfl hf_745 dX11_next_178 ?_
                        refine jj_iconst (v := 1) C dX11_next_181 (by decide) ?_
                        obtain ⟨x_851, ex_851, vx_851⟩ := tt_iadd (x := x_8) (y := (1 : Int32)) (a := x_8.toInt) rfl (b := 1) (by decide) (by omega) (by omega)
                        refine jj_iadd (v := x_851) C dX11_next_182 ex_851 ?_
                        refine rl_put C hok_825 jk_12 15 (by decide) jw_165232ba7c (t := (0, 0, 400)) hk0 (by decide) rfl rfl rfl (tt_iv (by omega) (by omega)) rfl rfl dX11_next_183 (fun pl_852 hok_853 tr hn tl => ?_)
                        replace hf_9 := tr _ _ _ (Or.inr (by decide)) hf_9
                        replace hf_848 := tr _ _ _ (Or.inr (by decide)) hf_848
                        have hf_854 := hn
                        replace hm := hm.put tr (by decide)
                        replace hfr := hfr.put hk0 tr (by decide)
                        replace hfa := hfa.all tl
                        exact jj_vret C ⟨[], pl_852, rfl, rfl, hok_853, hfr, hfa, rfl⟩ dX11_next_186 (jj_le rfl) (jj_le rfl)
                    · have z_c_843 := jc_nltL (a := y_840.toInt) (b := 48) c_843 rfl (by decide)
                      have z_c_844 := jc_ltL (a := 57) (b := y_840.toInt) c_844 (by decide) rfl
                      refine jj_if_eqT (tgt := 165) C dX11_next_128 (by decide) (by decide) ?_
                      refine jj_aload_n C dX11_next_165 rfl ?_
                      refine tt_getF C hok_825 jk_12 15 (by decide) jw_165232ba7c (t := (0, 0, 400)) hk0 (by decide) rfl rfl hf_745 dX11_next_166 ?_
                      refine jj_aload_n C dX11_next_169 rfl ?_
                      refine tt_get C hok_825 jk_12 16 (by decide) jw_28b46cb90c (t := (0, 0, 400)) hk0 (by decide) rfl rfl dX11_next_170 (fun v_855 hv_855 hf_856 => ?_)
                      obtain ⟨x_857, rfl, lx_857, ux_857⟩ := tt_vi hv_855
                      refine jj_icmp_ge (tgt := 186) C dX11_next_173 (by decide) (fun c_858 => ?_) (fun c_858 => ?_)
                      · have z_c_858 := jc_le (a := x_857.toInt) (b := x_8.toInt) c_858 rfl rfl
                        exact jj_vret C ⟨[], pl_824, rfl, rfl, hok_825, hfr, hfa, rfl⟩ dX11_next_186 (jj_le rfl) (jj_le rfl)
                      · have z_c_858 := jc_nle (a := x_857.toInt) (b := x_8.toInt) c_858 rfl rfl
                        refine jj_aload_n C dX11_next_176 rfl ?_
                        refine jj_dup C dX11_next_177 rfl ?_
                        refine tt_getF C hok_825 jk_12 15 (by decide) jw_165232ba7c (t := (0, 0, 400)) hk0 (by decide) rfl rfl hf_745 dX11_next_178 ?_
                        refine jj_iconst (v := 1) C dX11_next_181 (by decide) ?_
                        obtain ⟨x_859, ex_859, vx_859⟩ := tt_iadd (x := x_8) (y := (1 : Int32)) (a := x_8.toInt) rfl (b := 1) (by decide) (by omega) (by omega)
                        refine jj_iadd (v := x_859) C dX11_next_182 ex_859 ?_
                        refine rl_put C hok_825 jk_12 15 (by decide) jw_165232ba7c (t := (0, 0, 400)) hk0 (by decide) rfl rfl rfl (tt_iv (by omega) (by omega)) rfl rfl dX11_next_183 (fun pl_860 hok_861 tr hn tl => ?_)
                        replace hf_9 := tr _ _ _ (Or.inr (by decide)) hf_9
                        replace hf_856 := tr _ _ _ (Or.inr (by decide)) hf_856
                        have hf_862 := hn
                        replace hm := hm.put tr (by decide)
                        replace hfr := hfr.put hk0 tr (by decide)
                        replace hfa := hfa.all tl
                        exact jj_vret C ⟨[], pl_860, rfl, rfl, hok_861, hfr, hfa, rfl⟩ dX11_next_186 (jj_le rfl) (jj_le rfl)
                    · have z_c_845 := jc_nltL (a := y_840.toInt) (b := 48) c_845 rfl (by decide)
                      have z_c_846 := jc_nltL (a := 57) (b := y_840.toInt) c_846 (by decide) rfl
                      refine jj_if_eqF (tgt := 165) C dX11_next_128 (by decide) (by decide) ?_
                      have hL_863 : ∀ (N : Nat) (pl : va_W) (x_864 : Int32), True → tt_ok rt_tk cA Kd pl → tt_fr Kd [(1, 14), (1, 15)] pl0 pl → tt_fa Kd [] pl0 pl → rl_m pl h0 aw aa at0 ai af ap → tt_at pl h0 15 (.int x_864) → (0 : Int) ≤ x_864.toInt → x_864.toInt ≤ 400 → (401 - x_864.toInt ≤ (N : Int)) → jj_J p l e (jj_rm 1 25 0 0) s m args below meth c 1 A (vx_MQ below (jj_q D A (tt_O (fun rx pl1 r => rx = [] ∧ tt_ok rt_tk cA Kd pl1 ∧ tt_fr Kd [(1, 14), (1, 15)] pl0 pl1 ∧ tt_fa Kd [] pl0 pl1 ∧ ((r = none))))) (jj_x D A (tt_OX (fun _ _ _ => False))) args s 0 0 A) (jj_X D A ([] ++ pl)) 0 0 131 [(0, .ref h0)] [] := by
                        intro NL_863
                        induction NL_863 with
                        | zero => intro pl x_864 _ hok hfr hfa hm hf_865 lx_864 ux_864 hNL_863; exfalso; omega
                        | succ NL_863 ihL_863 =>
                          intro pl x_864 _ hok hfr hfa hm hf_865 lx_864 ux_864 hNL_863
                          replace ihL_863 := fun pl x_864 h1 => ihL_863 pl x_864 trivial h1
                          refine jj_aload_n C dX11_next_131 rfl ?_
                          refine jj_aload_n C dX11_next_132 rfl ?_
                          refine tt_getF C hok jk_12 15 (by decide) jw_165232ba7c (t := (0, 0, 400)) hk0 (by decide) rfl rfl hf_865 dX11_next_133 ?_
                          obtain ⟨qc, gs, hqc⟩ := tt_recv (cx := []) hok hk0 (by decide) rfl
                          refine tt_callV (rest := []) C (rc_X11_byteAt_4afdc3 hl D cA ak x_864 hk0 hkw hka hkt hki hkf hkp (by omega) (by omega) hok hm) [] [] rfl rfl (by decide) (by decide) (by decide) qc hqc rfl rfl jw_98db775389 jw_8e26deba02 jw_8ef34ac32e jw_f96c99f44d jw_4737f96f0a jn_X11_byteAt rfl (jj_le rfl) (jj_le rfl) (jj_le rfl) (jj_le rfl) (jj_le rfl) dX11_next_136 rfl (fun _ _ _ hX => hX.elim) (fun rx pl_866 r O_870 => ?_)
                          obtain ⟨rfl, hok_867, hr_868, ha_869, hR_871⟩ := O_870
                          replace hf_865 := hr_868.at hk0 (by decide) (by decide) hf_865
                          replace hm := hm.fr hr_868 hk0 rfl
                          replace hfr := hfr.trans (hr_868.sub (by decide))
                          replace hfa := hfa.trans (ha_869.sub (by decide))
                          rcases hR_871 with rfl | ⟨x_872, lx_872, ux_872, l_873, u_874, rfl⟩
                          · refine jj_i2l (v := (-1)) C dX11_next_139 (by decide) ?_
                            refine jj_ldc2 (v := 48) C dX11_next_140 jw_d6cfdd4319 ?_
                            refine jj_ldc2 (v := 57) C dX11_next_143 jw_8c7ed3b7a5 ?_
                            refine tt_call0S (rest := []) C (ct_X11_in_3 hl D cA ak) jw_2a24feddee jw_12f28ccfda jw_f96c99f44d jw_e07c9ada56 jn_X11_in rfl (jj_le rfl) (jj_le rfl) (jj_le rfl) (jj_le rfl) (jj_le rfl) dX11_next_146 rfl (fun w1 r O_875 => ?_)
                            obtain ⟨-, rfl⟩ := O_875
                            refine jj_if_eqT (tgt := 186) C dX11_next_149 (by decide) (by decide) ?_
                            exact jj_vret C ⟨[], pl_866, rfl, rfl, hok_867, hfr, hfa, rfl⟩ dX11_next_186 (jj_le rfl) (jj_le rfl)
                          · obtain ⟨y_876, ey_876, vy_876⟩ := tt_i2l x_872
                            refine jj_i2l (v := y_876) C dX11_next_139 ey_876 ?_
                            refine jj_ldc2 (v := 48) C dX11_next_140 jw_d6cfdd4319 ?_
                            refine jj_ldc2 (v := 57) C dX11_next_143 jw_8c7ed3b7a5 ?_
                            refine tt_call0S (rest := []) C (ct_X11_in_4 hl D cA ak y_876) jw_2a24feddee jw_12f28ccfda jw_f96c99f44d jw_e07c9ada56 jn_X11_in rfl (jj_le rfl) (jj_le rfl) (jj_le rfl) (jj_le rfl) (jj_le rfl) dX11_next_146 rfl (fun w1 r O_877 => ?_)
                            rcases O_877 with ⟨c_878, -, rfl⟩ | ⟨c_879, c_880, -, rfl⟩ | ⟨c_881, c_882, -, rfl⟩
                            · have z_c_878 := jc_ltL (a := y_876.toInt) (b := 48) c_878 rfl (by decide)
                              refine jj_if_eqT (tgt := 186) C dX11_next_149 (by decide) (by decide) ?_
                              exact jj_vret C ⟨[], pl_866, rfl, rfl, hok_867, hfr, hfa, rfl⟩ dX11_next_186 (jj_le rfl) (jj_le rfl)
                            · have z_c_879 := jc_nltL (a := y_876.toInt) (b := 48) c_879 rfl (by decide)
                              have z_c_880 := jc_ltL (a := 57) (b := y_876.toInt) c_880 (by decide) rfl
                              refine jj_if_eqT (tgt := 186) C dX11_next_149 (by decide) (by decide) ?_
                              exact jj_vret C ⟨[], pl_866, rfl, rfl, hok_867, hfr, hfa, rfl⟩ dX11_next_186 (jj_le rfl) (jj_le rfl)
                            · have z_c_881 := jc_nltL (a := y_876.toInt) (b := 48) c_881 rfl (by decide)
                              have z_c_882 := jc_nltL (a := 57) (b := y_876.toInt) c_882 (by decide) rfl
                              refine jj_if_eqF (tgt := 186) C dX11_next_149 (by decide) (by decide) ?_
                              refine jj_aload_n C dX11_next_152 rfl ?_
                              refine jj_dup C dX11_next_153 rfl ?_
                              refine tt_getF C hok_867 jk_12 15 (by decide) jw_165232ba7c (t := (0, 0, 400)) hk0 (by decide) rfl rfl hf_865 dX11_next_154 ?_
                              refine jj_iconst (v := 1) C dX11_next_157 (by decide) ?_
                              obtain ⟨x_883, ex_883, vx_883⟩ := tt_iadd (x := x_864) (y := (1 : Int32)) (a := x_864.toInt) rfl (b := 1) (by decide) (by omega) (by omega)
                              refine jj_iadd (v := x_883) C dX11_next_158 ex_883 ?_
                              refine rl_put C hok_867 jk_12 15 (by decide) jw_165232ba7c (t := (0, 0, 400)) hk0 (by decide) rfl rfl rfl (tt_iv (by omega) (by omega)) rfl rfl dX11_next_159 (fun pl_884 hok_885 tr hn tl => ?_)
                              have hf_886 := hn
                              replace hm := hm.put tr (by decide)
                              replace hfr := hfr.put hk0 tr (by decide)
                              replace hfa := hfa.all tl
                              refine jj_goto (tgt := 131) C dX11_next_162 (by decide) ?_
                              exact ihL_863 pl_884 x_883 hok_885 hfr hfa hm hf_886 (by first | omega | decide | exact tt_lo _ | exact tt_hi _) (by first | omega | decide | exact tt_lo _ | exact tt_hi _) (by first | omega | decide | exact tt_lo _ | exact tt_hi _)
                      exact hL_863 _ pl_824 x_8 trivial hok_825 hfr hfa hm hf_745 (by first | omega | decide | exact tt_lo _ | exact tt_hi _) (by first | omega | decide | exact tt_lo _ | exact tt_hi _) (Int.self_le_toNat _)
                · have z_c_820 := jc_nltL (a := y_817.toInt) (b := 97) c_820 rfl (by decide)
                  have z_c_821 := jc_ltL (a := 122) (b := y_817.toInt) c_821 (by decide) rfl
                  refine jj_if_eqT (tgt := 110) C dX11_next_73 (by decide) (by decide) ?_
                  refine jj_aload_n C dX11_next_110 rfl ?_
                  refine jj_aload_n C dX11_next_111 rfl ?_
                  refine tt_getF C hok_747 jk_12 15 (by decide) jw_165232ba7c (t := (0, 0, 400)) hk0 (by decide) rfl rfl hf_745 dX11_next_112 ?_
                  obtain ⟨qc, gs, hqc⟩ := tt_recv (cx := []) hok_747 hk0 (by decide) rfl
                  refine tt_callV (rest := []) C (rc_X11_byteAt_f5f728 hl D cA ak x_8 hk0 hkw hka hkt hki hkf hkp (by omega) (by omega) hok_747 hm) [] [] rfl rfl (by decide) (by decide) (by decide) qc hqc rfl rfl jw_98db775389 jw_8e26deba02 jw_8ef34ac32e jw_f96c99f44d jw_4737f96f0a jn_X11_byteAt rfl (jj_le rfl) (jj_le rfl) (jj_le rfl) (jj_le rfl) (jj_le rfl) dX11_next_115 rfl (fun _ _ _ hX => hX.elim) (fun rx pl_887 r O_891 => ?_)
                  obtain ⟨rfl, hok_888, hr_889, ha_890, hR_892⟩ := O_891
                  replace hf_9 := hr_889.at hk0 (by decide) (by decide) hf_9
                  replace hf_745 := hr_889.at hk0 (by decide) (by decide) hf_745
                  replace hm := hm.fr hr_889 hk0 rfl
                  replace hfr := hfr.trans (hr_889.sub (by decide))
                  replace hfa := hfa.trans (ha_890.sub (by decide))
                  rcases hR_892 with rfl | ⟨x_893, lx_893, ux_893, rfl⟩
                  · refine jj_i2l (v := (-1)) C dX11_next_118 (by decide) ?_
                    refine jj_ldc2 (v := 48) C dX11_next_119 jw_d6cfdd4319 ?_
                    refine jj_ldc2 (v := 57) C dX11_next_122 jw_8c7ed3b7a5 ?_
                    refine tt_call0S (rest := []) C (ct_X11_in_3 hl D cA ak) jw_2a24feddee jw_12f28ccfda jw_f96c99f44d jw_e07c9ada56 jn_X11_in rfl (jj_le rfl) (jj_le rfl) (jj_le rfl) (jj_le rfl) (jj_le rfl) dX11_next_125 rfl (fun w1 r O_894 => ?_)
                    obtain ⟨-, rfl⟩ := O_894
                    refine jj_if_eqT (tgt := 165) C dX11_next_128 (by decide) (by decide) ?_
                    refine jj_aload_n C dX11_next_165 rfl ?_
                    refine tt_getF C hok_888 jk_12 15 (by decide) jw_165232ba7c (t := (0, 0, 400)) hk0 (by decide) rfl rfl hf_745 dX11_next_166 ?_
                    refine jj_aload_n C dX11_next_169 rfl ?_
                    refine tt_get C hok_888 jk_12 16 (by decide) jw_28b46cb90c (t := (0, 0, 400)) hk0 (by decide) rfl rfl dX11_next_170 (fun v_895 hv_895 hf_896 => ?_)
                    obtain ⟨x_897, rfl, lx_897, ux_897⟩ := tt_vi hv_895
                    refine jj_icmp_ge (tgt := 186) C dX11_next_173 (by decide) (fun c_898 => ?_) (fun c_898 => ?_)
                    · have z_c_898 := jc_le (a := x_897.toInt) (b := x_8.toInt) c_898 rfl rfl
                      exact jj_vret C ⟨[], pl_887, rfl, rfl, hok_888, hfr, hfa, rfl⟩ dX11_next_186 (jj_le rfl) (jj_le rfl)
                    · have z_c_898 := jc_nle (a := x_897.toInt) (b := x_8.toInt) c_898 rfl rfl
                      refine jj_aload_n C dX11_next_176 rfl ?_
                      refine jj_dup C dX11_next_177 rfl ?_
                      refine tt_getF C hok_888 jk_12 15 (by decide) jw_165232ba7c (t := (0, 0, 400)) hk0 (by decide) rfl rfl hf_745 dX11_next_178 ?_
                      refine jj_iconst (v := 1) C dX11_next_181 (by decide) ?_
                      obtain ⟨x_899, ex_899, vx_899⟩ := tt_iadd (x := x_8) (y := (1 : Int32)) (a := x_8.toInt) rfl (b := 1) (by decide) (by omega) (by omega)
                      refine jj_iadd (v := x_899) C dX11_next_182 ex_899 ?_
                      refine rl_put C hok_888 jk_12 15 (by decide) jw_165232ba7c (t := (0, 0, 400)) hk0 (by decide) rfl rfl rfl (tt_iv (by omega) (by omega)) rfl rfl dX11_next_183 (fun pl_900 hok_901 tr hn tl => ?_)
                      replace hf_9 := tr _ _ _ (Or.inr (by decide)) hf_9
                      replace hf_896 := tr _ _ _ (Or.inr (by decide)) hf_896
                      have hf_902 := hn
                      replace hm := hm.put tr (by decide)
                      replace hfr := hfr.put hk0 tr (by decide)
                      replace hfa := hfa.all tl
                      exact jj_vret C ⟨[], pl_900, rfl, rfl, hok_901, hfr, hfa, rfl⟩ dX11_next_186 (jj_le rfl) (jj_le rfl)
                  · obtain ⟨y_903, ey_903, vy_903⟩ := tt_i2l x_893
                    refine jj_i2l (v := y_903) C dX11_next_118 ey_903 ?_
                    refine jj_ldc2 (v := 48) C dX11_next_119 jw_d6cfdd4319 ?_
                    refine jj_ldc2 (v := 57) C dX11_next_122 jw_8c7ed3b7a5 ?_
                    refine tt_call0S (rest := []) C (ct_X11_in_4 hl D cA ak y_903) jw_2a24feddee jw_12f28ccfda jw_f96c99f44d jw_e07c9ada56 jn_X11_in rfl (jj_le rfl) (jj_le rfl) (jj_le rfl) (jj_le rfl) (jj_le rfl) dX11_next_125 rfl (fun w1 r O_904 => ?_)
                    rcases O_904 with ⟨c_905, -, rfl⟩ | ⟨c_906, c_907, -, rfl⟩ | ⟨c_908, c_909, -, rfl⟩
                    · have z_c_905 := jc_ltL (a := y_903.toInt) (b := 48) c_905 rfl (by decide)
                      refine jj_if_eqT (tgt := 165) C dX11_next_128 (by decide) (by decide) ?_
                      refine jj_aload_n C dX11_next_165 rfl ?_
                      refine tt_getF C hok_888 jk_12 15 (by decide) jw_165232ba7c (t := (0, 0, 400)) hk0 (by decide) rfl rfl hf_745 dX11_next_166 ?_
                      refine jj_aload_n C dX11_next_169 rfl ?_
                      refine tt_get C hok_888 jk_12 16 (by decide) jw_28b46cb90c (t := (0, 0, 400)) hk0 (by decide) rfl rfl dX11_next_170 (fun v_910 hv_910 hf_911 => ?_)
                      obtain ⟨x_912, rfl, lx_912, ux_912⟩ := tt_vi hv_910
                      refine jj_icmp_ge (tgt := 186) C dX11_next_173 (by decide) (fun c_913 => ?_) (fun c_913 => ?_)
                      · have z_c_913 := jc_le (a := x_912.toInt) (b := x_8.toInt) c_913 rfl rfl
                        exact jj_vret C ⟨[], pl_887, rfl, rfl, hok_888, hfr, hfa, rfl⟩ dX11_next_186 (jj_le rfl) (jj_le rfl)
                      · have z_c_913 := jc_nle (a := x_912.toInt) (b := x_8.toInt) c_913 rfl rfl
                        refine jj_aload_n C dX11_next_176 rfl ?_
                        refine jj_dup C dX11_next_177 rfl ?_
                        refine tt_getF C hok_888 jk_12 15 (by decide) jw_165232ba7c (t := (0, 0, 400)) hk0 (by decide) rfl rfl hf_745 dX11_next_178 ?_
                        refine jj_iconst (v := 1) C dX11_next_181 (by decide) ?_
                        obtain ⟨x_914, ex_914, vx_914⟩ := tt_iadd (x := x_8) (y := (1 : Int32)) (a := x_8.toInt) rfl (b := 1) (by decide) (by omega) (by omega)
                        refine jj_iadd (v := x_914) C dX11_next_182 ex_914 ?_
                        refine rl_put C hok_888 jk_12 15 (by decide) jw_165232ba7c (t := (0, 0, 400)) hk0 (by decide) rfl rfl rfl (tt_iv (by omega) (by omega)) rfl rfl dX11_next_183 (fun pl_915 hok_916 tr hn tl => ?_)
                        replace hf_9 := tr _ _ _ (Or.inr (by decide)) hf_9
                        replace hf_911 := tr _ _ _ (Or.inr (by decide)) hf_911
                        have hf_917 := hn
                        replace hm := hm.put tr (by decide)
                        replace hfr := hfr.put hk0 tr (by decide)
                        replace hfa := hfa.all tl
                        exact jj_vret C ⟨[], pl_915, rfl, rfl, hok_916, hfr, hfa, rfl⟩ dX11_next_186 (jj_le rfl) (jj_le rfl)
                    · have z_c_906 := jc_nltL (a := y_903.toInt) (b := 48) c_906 rfl (by decide)
                      have z_c_907 := jc_ltL (a := 57) (b := y_903.toInt) c_907 (by decide) rfl
                      refine jj_if_eqT (tgt := 165) C dX11_next_128 (by decide) (by decide) ?_
                      refine jj_aload_n C dX11_next_165 rfl ?_
                      refine tt_getF C hok_888 jk_12 15 (by decide) jw_165232ba7c (t := (0, 0, 400)) hk0 (by decide) rfl rfl hf_745 dX11_next_166 ?_
                      refine jj_aload_n C dX11_next_169 rfl ?_
                      refine tt_get C hok_888 jk_12 16 (by decide) jw_28b46cb90c (t := (0, 0, 400)) hk0 (by decide) rfl rfl dX11_next_170 (fun v_918 hv_918 hf_919 => ?_)
                      obtain ⟨x_920, rfl, lx_920, ux_920⟩ := tt_vi hv_918
                      refine jj_icmp_ge (tgt := 186) C dX11_next_173 (by decide) (fun c_921 => ?_) (fun c_921 => ?_)
                      · have z_c_921 := jc_le (a := x_920.toInt) (b := x_8.toInt) c_921 rfl rfl
                        exact jj_vret C ⟨[], pl_887, rfl, rfl, hok_888, hfr, hfa, rfl⟩ dX11_next_186 (jj_le rfl) (jj_le rfl)
                      · have z_c_921 := jc_nle (a := x_920.toInt) (b := x_8.toInt) c_921 rfl rfl
                        refine jj_aload_n C dX11_next_176 rfl ?_
                        refine jj_dup C dX11_next_177 rfl ?_
                        refine tt_getF C hok_888 jk_12 15 (by decide) jw_165232ba7c (t := (0, 0, 400)) hk0 (by decide) rfl rfl hf_745 dX11_next_178 ?_
                        refine jj_iconst (v := 1) C dX11_next_181 (by decide) ?_
                        obtain ⟨x_922, ex_922, vx_922⟩ := tt_iadd (x := x_8) (y := (1 : Int32)) (a := x_8.toInt) rfl (b := 1) (by decide) (by omega) (by omega)
                        refine jj_iadd (v := x_922) C dX11_next_182 ex_922 ?_
                        refine rl_put C hok_888 jk_12 15 (by decide) jw_165232ba7c (t := (0, 0, 400)) hk0 (by decide) rfl rfl rfl (tt_iv (by omega) (by omega)) rfl rfl dX11_next_183 (fun pl_923 hok_924 tr hn tl => ?_)
                        replace hf_9 := tr _ _ _ (Or.inr (by decide)) hf_9
                        replace hf_919 := tr _ _ _ (Or.inr (by decide)) hf_919
                        have hf_925 := hn
                        replace hm := hm.put tr (by decide)
                        replace hfr := hfr.put hk0 tr (by decide)
                        replace hfa := hfa.all tl
                        exact jj_vret C ⟨[], pl_923, rfl, rfl, hok_924, hfr, hfa, rfl⟩ dX11_next_186 (jj_le rfl) (jj_le rfl)
                    · have z_c_908 := jc_nltL (a := y_903.toInt) (b := 48) c_908 rfl (by decide)
                      have z_c_909 := jc_nltL (a := 57) (b := y_903.toInt) c_909 (by decide) rfl
                      refine jj_if_eqF (tgt := 165) C dX11_next_128 (by decide) (by decide) ?_
                      have hL_926 : ∀ (N : Nat) (pl : va_W) (x_927 : Int32), True → tt_ok rt_tk cA Kd pl → tt_fr Kd [(1, 14), (1, 15)] pl0 pl → tt_fa Kd [] pl0 pl → rl_m pl h0 aw aa at0 ai af ap → tt_at pl h0 15 (.int x_927) → (0 : Int) ≤ x_927.toInt → x_927.toInt ≤ 400 → (401 - x_927.toInt ≤ (N : Int)) → jj_J p l e (jj_rm 1 25 0 0) s m args below meth c 1 A (vx_MQ below (jj_q D A (tt_O (fun rx pl1 r => rx = [] ∧ tt_ok rt_tk cA Kd pl1 ∧ tt_fr Kd [(1, 14), (1, 15)] pl0 pl1 ∧ tt_fa Kd [] pl0 pl1 ∧ ((r = none))))) (jj_x D A (tt_OX (fun _ _ _ => False))) args s 0 0 A) (jj_X D A ([] ++ pl)) 0 0 131 [(0, .ref h0)] [] := by
                        intro NL_926
                        induction NL_926 with
                        | zero => intro pl x_927 _ hok hfr hfa hm hf_928 lx_927 ux_927 hNL_926; exfalso; omega
                        | succ NL_926 ihL_926 =>
                          intro pl x_927 _ hok hfr hfa hm hf_928 lx_927 ux_927 hNL_926
                          replace ihL_926 := fun pl x_927 h1 => ihL_926 pl x_927 trivial h1
                          refine jj_aload_n C dX11_next_131 rfl ?_
                          refine jj_aload_n C dX11_next_132 rfl ?_
                          refine tt_getF C hok jk_12 15 (by decide) jw_165232ba7c (t := (0, 0, 400)) hk0 (by decide) rfl rfl hf_928 dX11_next_133 ?_
                          obtain ⟨qc, gs, hqc⟩ := tt_recv (cx := []) hok hk0 (by decide) rfl
                          refine tt_callV (rest := []) C (rc_X11_byteAt_4afdc3 hl D cA ak x_927 hk0 hkw hka hkt hki hkf hkp (by omega) (by omega) hok hm) [] [] rfl rfl (by decide) (by decide) (by decide) qc hqc rfl rfl jw_98db775389 jw_8e26deba02 jw_8ef34ac32e jw_f96c99f44d jw_4737f96f0a jn_X11_byteAt rfl (jj_le rfl) (jj_le rfl) (jj_le rfl) (jj_le rfl) (jj_le rfl) dX11_next_136 rfl (fun _ _ _ hX => hX.elim) (fun rx pl_929 r O_933 => ?_)
                          obtain ⟨rfl, hok_930, hr_931, ha_932, hR_934⟩ := O_933
                          replace hf_928 := hr_931.at hk0 (by decide) (by decide) hf_928
                          replace hm := hm.fr hr_931 hk0 rfl
                          replace hfr := hfr.trans (hr_931.sub (by decide))
                          replace hfa := hfa.trans (ha_932.sub (by decide))
                          rcases hR_934 with rfl | ⟨x_935, lx_935, ux_935, l_936, u_937, rfl⟩
                          · refine jj_i2l (v := (-1)) C dX11_next_139 (by decide) ?_
                            refine jj_ldc2 (v := 48) C dX11_next_140 jw_d6cfdd4319 ?_
                            refine jj_ldc2 (v := 57) C dX11_next_143 jw_8c7ed3b7a5 ?_
                            refine tt_call0S (rest := []) C (ct_X11_in_3 hl D cA ak) jw_2a24feddee jw_12f28ccfda jw_f96c99f44d jw_e07c9ada56 jn_X11_in rfl (jj_le rfl) (jj_le rfl) (jj_le rfl) (jj_le rfl) (jj_le rfl) dX11_next_146 rfl (fun w1 r O_938 => ?_)
                            obtain ⟨-, rfl⟩ := O_938
                            refine jj_if_eqT (tgt := 186) C dX11_next_149 (by decide) (by decide) ?_
                            exact jj_vret C ⟨[], pl_929, rfl, rfl, hok_930, hfr, hfa, rfl⟩ dX11_next_186 (jj_le rfl) (jj_le rfl)
                          · obtain ⟨y_939, ey_939, vy_939⟩ := tt_i2l x_935
                            refine jj_i2l (v := y_939) C dX11_next_139 ey_939 ?_
                            refine jj_ldc2 (v := 48) C dX11_next_140 jw_d6cfdd4319 ?_
                            refine jj_ldc2 (v := 57) C dX11_next_143 jw_8c7ed3b7a5 ?_
                            refine tt_call0S (rest := []) C (ct_X11_in_4 hl D cA ak y_939) jw_2a24feddee jw_12f28ccfda jw_f96c99f44d jw_e07c9ada56 jn_X11_in rfl (jj_le rfl) (jj_le rfl) (jj_le rfl) (jj_le rfl) (jj_le rfl) dX11_next_146 rfl (fun w1 r O_940 => ?_)
                            rcases O_940 with ⟨c_941, -, rfl⟩ | ⟨c_942, c_943, -, rfl⟩ | ⟨c_944, c_945, -, rfl⟩
                            · have z_c_941 := jc_ltL (a := y_939.toInt) (b := 48) c_941 rfl (by decide)
                              refine jj_if_eqT (tgt := 186) C dX11_next_149 (by decide) (by decide) ?_
                              exact jj_vret C ⟨[], pl_929, rfl, rfl, hok_930, hfr, hfa, rfl⟩ dX11_next_186 (jj_le rfl) (jj_le rfl)
                            · have z_c_942 := jc_nltL (a := y_939.toInt) (b := 48) c_942 rfl (by decide)
                              have z_c_943 := jc_ltL (a := 57) (b := y_939.toInt) c_943 (by decide) rfl
                              refine jj_if_eqT (tgt := 186) C dX11_next_149 (by decide) (by decide) ?_
                              exact jj_vret C ⟨[], pl_929, rfl, rfl, hok_930, hfr, hfa, rfl⟩ dX11_next_186 (jj_le rfl) (jj_le rfl)
                            · have z_c_944 := jc_nltL (a := y_939.toInt) (b := 48) c_944 rfl (by decide)
                              have z_c_945 := jc_nltL (a := 57) (b := y_939.toInt) c_945 (by decide) rfl
                              refine jj_if_eqF (tgt := 186) C dX11_next_149 (by decide) (by decide) ?_
                              refine jj_aload_n C dX11_next_152 rfl ?_
                              refine jj_dup C dX11_next_153 rfl ?_
                              refine tt_getF C hok_930 jk_12 15 (by decide) jw_165232ba7c (t := (0, 0, 400)) hk0 (by decide) rfl rfl hf_928 dX11_next_154 ?_
                              refine jj_iconst (v := 1) C dX11_next_157 (by decide) ?_
                              obtain ⟨x_946, ex_946, vx_946⟩ := tt_iadd (x := x_927) (y := (1 : Int32)) (a := x_927.toInt) rfl (b := 1) (by decide) (by omega) (by omega)
                              refine jj_iadd (v := x_946) C dX11_next_158 ex_946 ?_
                              refine rl_put C hok_930 jk_12 15 (by decide) jw_165232ba7c (t := (0, 0, 400)) hk0 (by decide) rfl rfl rfl (tt_iv (by omega) (by omega)) rfl rfl dX11_next_159 (fun pl_947 hok_948 tr hn tl => ?_)
                              have hf_949 := hn
                              replace hm := hm.put tr (by decide)
                              replace hfr := hfr.put hk0 tr (by decide)
                              replace hfa := hfa.all tl
                              refine jj_goto (tgt := 131) C dX11_next_162 (by decide) ?_
                              exact ihL_926 pl_947 x_946 hok_948 hfr hfa hm hf_949 (by first | omega | decide | exact tt_lo _ | exact tt_hi _) (by first | omega | decide | exact tt_lo _ | exact tt_hi _) (by first | omega | decide | exact tt_lo _ | exact tt_hi _)
                      exact hL_926 _ pl_887 x_8 trivial hok_888 hfr hfa hm hf_745 (by first | omega | decide | exact tt_lo _ | exact tt_hi _) (by first | omega | decide | exact tt_lo _ | exact tt_hi _) (Int.self_le_toNat _)
                · have z_c_822 := jc_nltL (a := y_817.toInt) (b := 97) c_822 rfl (by decide)
                  have z_c_823 := jc_nltL (a := 122) (b := y_817.toInt) c_823 (by decide) rfl
                  refine jj_if_eqF (tgt := 110) C dX11_next_73 (by decide) (by decide) ?_
                  have hL_950 : ∀ (N : Nat) (pl : va_W) (x_951 : Int32), True → tt_ok rt_tk cA Kd pl → tt_fr Kd [(1, 14), (1, 15)] pl0 pl → tt_fa Kd [] pl0 pl → rl_m pl h0 aw aa at0 ai af ap → tt_at pl h0 15 (.int x_951) → (0 : Int) ≤ x_951.toInt → x_951.toInt ≤ 400 → (401 - x_951.toInt ≤ (N : Int)) → jj_J p l e (jj_rm 1 25 0 0) s m args below meth c 1 A (vx_MQ below (jj_q D A (tt_O (fun rx pl1 r => rx = [] ∧ tt_ok rt_tk cA Kd pl1 ∧ tt_fr Kd [(1, 14), (1, 15)] pl0 pl1 ∧ tt_fa Kd [] pl0 pl1 ∧ ((r = none))))) (jj_x D A (tt_OX (fun _ _ _ => False))) args s 0 0 A) (jj_X D A ([] ++ pl)) 0 0 76 [(0, .ref h0)] [] := by
                    intro NL_950
                    induction NL_950 with
                    | zero => intro pl x_951 _ hok hfr hfa hm hf_952 lx_951 ux_951 hNL_950; exfalso; omega
                    | succ NL_950 ihL_950 =>
                      intro pl x_951 _ hok hfr hfa hm hf_952 lx_951 ux_951 hNL_950
                      replace ihL_950 := fun pl x_951 h1 => ihL_950 pl x_951 trivial h1
                      refine jj_aload_n C dX11_next_76 rfl ?_
                      refine jj_aload_n C dX11_next_77 rfl ?_
                      refine tt_getF C hok jk_12 15 (by decide) jw_165232ba7c (t := (0, 0, 400)) hk0 (by decide) rfl rfl hf_952 dX11_next_78 ?_
                      obtain ⟨qc, gs, hqc⟩ := tt_recv (cx := []) hok hk0 (by decide) rfl
                      refine tt_callV (rest := []) C (rc_X11_byteAt_4afdc3 hl D cA ak x_951 hk0 hkw hka hkt hki hkf hkp (by omega) (by omega) hok hm) [] [] rfl rfl (by decide) (by decide) (by decide) qc hqc rfl rfl jw_98db775389 jw_8e26deba02 jw_8ef34ac32e jw_f96c99f44d jw_4737f96f0a jn_X11_byteAt rfl (jj_le rfl) (jj_le rfl) (jj_le rfl) (jj_le rfl) (jj_le rfl) dX11_next_81 rfl (fun _ _ _ hX => hX.elim) (fun rx pl_953 r O_957 => ?_)
                      obtain ⟨rfl, hok_954, hr_955, ha_956, hR_958⟩ := O_957
                      replace hf_952 := hr_955.at hk0 (by decide) (by decide) hf_952
                      replace hm := hm.fr hr_955 hk0 rfl
                      replace hfr := hfr.trans (hr_955.sub (by decide))
                      replace hfa := hfa.trans (ha_956.sub (by decide))
                      rcases hR_958 with rfl | ⟨x_959, lx_959, ux_959, l_960, u_961, rfl⟩
                      · refine jj_i2l (v := (-1)) C dX11_next_84 (by decide) ?_
                        refine jj_ldc2 (v := 97) C dX11_next_85 jw_39d46451b9 ?_
                        refine jj_ldc2 (v := 122) C dX11_next_88 jw_33d5fc8685 ?_
                        refine tt_call0S (rest := []) C (ct_X11_in_2 hl D cA ak) jw_2a24feddee jw_12f28ccfda jw_f96c99f44d jw_e07c9ada56 jn_X11_in rfl (jj_le rfl) (jj_le rfl) (jj_le rfl) (jj_le rfl) (jj_le rfl) dX11_next_91 rfl (fun w1 r O_962 => ?_)
                        obtain ⟨-, rfl⟩ := O_962
                        refine jj_if_eqT (tgt := 186) C dX11_next_94 (by decide) (by decide) ?_
                        exact jj_vret C ⟨[], pl_953, rfl, rfl, hok_954, hfr, hfa, rfl⟩ dX11_next_186 (jj_le rfl) (jj_le rfl)
                      · obtain ⟨y_963, ey_963, vy_963⟩ := tt_i2l x_959
                        refine jj_i2l (v := y_963) C dX11_next_84 ey_963 ?_
                        refine jj_ldc2 (v := 97) C dX11_next_85 jw_39d46451b9 ?_
                        refine jj_ldc2 (v := 122) C dX11_next_88 jw_33d5fc8685 ?_
                        refine tt_call0S (rest := []) C (ct_X11_in_5 hl D cA ak y_963) jw_2a24feddee jw_12f28ccfda jw_f96c99f44d jw_e07c9ada56 jn_X11_in rfl (jj_le rfl) (jj_le rfl) (jj_le rfl) (jj_le rfl) (jj_le rfl) dX11_next_91 rfl (fun w1 r O_964 => ?_)
                        rcases O_964 with ⟨c_965, -, rfl⟩ | ⟨c_966, c_967, -, rfl⟩ | ⟨c_968, c_969, -, rfl⟩
                        · have z_c_965 := jc_ltL (a := y_963.toInt) (b := 97) c_965 rfl (by decide)
                          refine jj_if_eqT (tgt := 186) C dX11_next_94 (by decide) (by decide) ?_
                          exact jj_vret C ⟨[], pl_953, rfl, rfl, hok_954, hfr, hfa, rfl⟩ dX11_next_186 (jj_le rfl) (jj_le rfl)
                        · have z_c_966 := jc_nltL (a := y_963.toInt) (b := 97) c_966 rfl (by decide)
                          have z_c_967 := jc_ltL (a := 122) (b := y_963.toInt) c_967 (by decide) rfl
                          refine jj_if_eqT (tgt := 186) C dX11_next_94 (by decide) (by decide) ?_
                          exact jj_vret C ⟨[], pl_953, rfl, rfl, hok_954, hfr, hfa, rfl⟩ dX11_next_186 (jj_le rfl) (jj_le rfl)
                        · have z_c_968 := jc_nltL (a := y_963.toInt) (b := 97) c_968 rfl (by decide)
                          have z_c_969 := jc_nltL (a := 122) (b := y_963.toInt) c_969 (by decide) rfl
                          refine jj_if_eqF (tgt := 186) C dX11_next_94 (by decide) (by decide) ?_
                          refine jj_aload_n C dX11_next_97 rfl ?_
                          refine jj_dup C dX11_next_98 rfl ?_
                          refine tt_getF C hok_954 jk_12 15 (by decide) jw_165232ba7c (t := (0, 0, 400)) hk0 (by decide) rfl rfl hf_952 dX11_next_99 ?_
                          refine jj_iconst (v := 1) C dX11_next_102 (by decide) ?_
                          obtain ⟨x_970, ex_970, vx_970⟩ := tt_iadd (x := x_951) (y := (1 : Int32)) (a := x_951.toInt) rfl (b := 1) (by decide) (by omega) (by omega)
                          refine jj_iadd (v := x_970) C dX11_next_103 ex_970 ?_
                          refine rl_put C hok_954 jk_12 15 (by decide) jw_165232ba7c (t := (0, 0, 400)) hk0 (by decide) rfl rfl rfl (tt_iv (by omega) (by omega)) rfl rfl dX11_next_104 (fun pl_971 hok_972 tr hn tl => ?_)
                          have hf_973 := hn
                          replace hm := hm.put tr (by decide)
                          replace hfr := hfr.put hk0 tr (by decide)
                          replace hfa := hfa.all tl
                          refine jj_goto (tgt := 76) C dX11_next_107 (by decide) ?_
                          exact ihL_950 pl_971 x_970 hok_972 hfr hfa hm hf_973 (by first | omega | decide | exact tt_lo _ | exact tt_hi _) (by first | omega | decide | exact tt_lo _ | exact tt_hi _) (by first | omega | decide | exact tt_lo _ | exact tt_hi _)
                  exact hL_950 _ pl_746 x_8 trivial hok_747 hfr hfa hm hf_745 (by first | omega | decide | exact tt_lo _ | exact tt_hi _) (by first | omega | decide | exact tt_lo _ | exact tt_hi _) (Int.self_le_toNat _)
            · have z_c_742 := jc_eq (a := x_510.toInt) (b := 10) c_742 rfl (by decide)
              refine jj_aload_n C dX11_next_34 rfl ?_
              refine jj_dup C dX11_next_35 rfl ?_
              refine tt_getF C hok_505 jk_12 14 (by decide) jw_6446e1fd81 (t := (0, 0, 400)) hk0 (by decide) rfl rfl hf_9 dX11_next_36 ?_
              refine jj_iconst (v := 1) C dX11_next_39 (by decide) ?_
              obtain ⟨x_974, ex_974, vx_974⟩ := tt_iadd (x := x_8) (y := (1 : Int32)) (a := x_8.toInt) rfl (b := 1) (by decide) (by omega) (by omega)
              refine jj_iadd (v := x_974) C dX11_next_40 ex_974 ?_
              refine rl_put C hok_505 jk_12 14 (by decide) jw_6446e1fd81 (t := (0, 0, 400)) hk0 (by decide) rfl rfl rfl (tt_iv (by omega) (by omega)) rfl rfl dX11_next_41 (fun pl_975 hok_976 tr hn tl => ?_)
              have hf_977 := hn
              replace hm := hm.put tr (by decide)
              replace hfr := hfr.put hk0 tr (by decide)
              replace hfa := hfa.all tl
              refine jj_goto (tgt := 8) C dX11_next_44 (by decide) ?_
              exact ihL_7 pl_975 x_974 hok_976 hfr hfa hm hf_977 (by first | omega | decide | exact tt_lo _ | exact tt_hi _) (by first | omega | decide | exact tt_lo _ | exact tt_hi _) (by first | omega | decide | exact tt_lo _ | exact tt_hi _)
  exact hL_7 _ pl_4 x_3 trivial hok_5 hfr hfa hm hf_6 (by first | omega | decide | exact tt_lo _ | exact tt_hi _) (by first | omega | decide | exact tt_lo _ | exact tt_hi _) (Int.self_le_toNat _)

set_option maxHeartbeats 4000000 in
set_option maxRecDepth 100000 in
theorem rc_X11_wrong_d8d95c {l : Launch} (hl : l.stackTraces = false) (D : va_G) (cA : Nat → ClassId) (ak : (Nat → Nat) × (Nat → Nat)) {Kd : Nat → Nat} {h0 aw aa at0 ai af ap : Nat} (p1 : Int32) (hk0 : Kd h0 = 1) (hkw : Kd aw = 2) (hka : Kd aa = 3) (hkt : Kd at0 = 4) (hki : Kd ai = 5) (hkf : Kd af = 6) (hkp : Kd ap = 7) {pl0 : va_W} (hok : tt_ok rt_tk cA Kd pl0) (hm : rl_m pl0 h0 aw aa at0 ai af ap) : jj_M l D cA ak yX11_wrong (.code yX11_wrong cX11_wrong 2 none) 0 0 0 0 ([] ++ pl0) [.ref h0, .int p1] (tt_O (fun rx pl1 r => rx = [] ∧ tt_ok rt_tk cA Kd pl1 ∧ tt_fr Kd [(1, 17), (1, 18)] pl0 pl1 ∧ tt_fa Kd [] pl0 pl1 ∧ ((r = none)))) (tt_OX (fun _ _ _ => False)) := by
  refine jj_start hl (by decide) jw_6b1a6dabbc (jj_le rfl) ?_
  intro p e s m args below meth c A hargs hA C hex hmn
  have hfr := tt_fr.refl (K := Kd) (WS := [(1, 17), (1, 18)]) pl0
  have hfa := tt_fa.refl (K := Kd) (WA := []) pl0
  have lp1 := tt_lo p1
  have up1 := tt_hi p1
  refine jj_aload_n C dX11_wrong_0 rfl ?_
  refine tt_get C hok jk_12 17 (by decide) jw_17e99f0710 (t := (0, (-2147483648), 2147483647)) hk0 (by decide) rfl rfl dX11_wrong_1 (fun v_1 hv_1 hf_2 => ?_)
  obtain ⟨x_3, rfl, lx_3, ux_3⟩ := tt_vi hv_1
  refine jj_if_le (tgt := 8) C dX11_wrong_4 (by decide) (fun c_4 => ?_) (fun c_4 => ?_)
  · have z_c_4 := jc_le (a := x_3.toInt) (b := 0) c_4 rfl (by decide)
    refine jj_aload_n C dX11_wrong_8 rfl ?_
    refine jj_iload_n C dX11_wrong_9 rfl ?_
    refine rl_put C hok jk_12 17 (by decide) jw_17e99f0710 (t := (0, (-2147483648), 2147483647)) hk0 (by decide) rfl rfl rfl (tt_ia p1) rfl rfl dX11_wrong_10 (fun pl_5 hok_6 tr hn tl => ?_)
    have hf_7 := hn
    replace hm := hm.put tr (by decide)
    replace hfr := hfr.put hk0 tr (by decide)
    replace hfa := hfa.all tl
    refine jj_aload_n C dX11_wrong_13 rfl ?_
    refine jj_aload_n C dX11_wrong_14 rfl ?_
    refine tt_get C hok_6 jk_12 14 (by decide) jw_6446e1fd81 (t := (0, 0, 400)) hk0 (by decide) rfl rfl dX11_wrong_15 (fun v_8 hv_8 hf_9 => ?_)
    obtain ⟨x_10, rfl, lx_10, ux_10⟩ := tt_vi hv_8
    refine rl_put C hok_6 jk_12 18 (by decide) jw_a8ef26b797 (t := (0, (-2147483648), 2147483647)) hk0 (by decide) rfl rfl rfl (tt_ia x_10) rfl rfl dX11_wrong_18 (fun pl_11 hok_12 tr hn tl => ?_)
    replace hf_7 := tr _ _ _ (Or.inr (by decide)) hf_7
    replace hf_9 := tr _ _ _ (Or.inr (by decide)) hf_9
    have hf_13 := hn
    replace hm := hm.put tr (by decide)
    replace hfr := hfr.put hk0 tr (by decide)
    replace hfa := hfa.all tl
    exact jj_vret C ⟨[], pl_11, rfl, rfl, hok_12, hfr, hfa, rfl⟩ dX11_wrong_21 (jj_le rfl) (jj_le rfl)
  · have z_c_4 := jc_nle (a := x_3.toInt) (b := 0) c_4 rfl (by decide)
    exact jj_vret C ⟨[], pl0, rfl, rfl, hok, hfr, hfa, rfl⟩ dX11_wrong_7 (jj_le rfl) (jj_le rfl)

set_option maxHeartbeats 4000000 in
set_option maxRecDepth 100000 in
theorem rc_X11_pass_9a6f36 {l : Launch} (hl : l.stackTraces = false) (D : va_G) (cA : Nat → ClassId) (ak : (Nat → Nat) × (Nat → Nat)) {Kd : Nat → Nat} {h0 aw aa at0 ai af ap : Nat} (hk0 : Kd h0 = 1) (hkw : Kd aw = 2) (hka : Kd aa = 3) (hkt : Kd at0 = 4) (hki : Kd ai = 5) (hkf : Kd af = 6) (hkp : Kd ap = 7) {pl0 : va_W} (hok : tt_ok rt_tk cA Kd pl0) (hm : rl_m pl0 h0 aw aa at0 ai af ap) : jj_M l D cA ak yX11_pass (.code yX11_pass cX11_pass 1 none) 2 45 0 0 ([] ++ pl0) [.ref h0] (tt_O (fun rx pl1 r => rx = [] ∧ tt_ok rt_tk cA Kd pl1 ∧ tt_fr Kd [(1, 14), (1, 15)] pl0 pl1 ∧ tt_fa Kd [] pl0 pl1 ∧ ((r = none)))) (tt_OX (fun _ _ _ => False)) := by
  refine jj_start hl (by decide) jw_3d0e41f30f (jj_le rfl) ?_
  intro p e s m args below meth c A hargs hA C hex hmn
  have hfr := tt_fr.refl (K := Kd) (WS := [(1, 14), (1, 15)]) pl0
  have hfa := tt_fa.refl (K := Kd) (WA := []) pl0
  refine jj_aload_n C dX11_pass_0 rfl ?_
  refine tt_get C hok jk_12 17 (by decide) jw_17e99f0710 (t := (0, (-2147483648), 2147483647)) hk0 (by decide) rfl rfl dX11_pass_1 (fun v_1 hv_1 hf_2 => ?_)
  obtain ⟨x_3, rfl, lx_3, ux_3⟩ := tt_vi hv_1
  refine jj_if_ne (tgt := 11) C dX11_pass_4 (by decide) (fun c_4 => ?_) (fun c_4 => ?_)
  · have z_c_4 := jc_neq (a := x_3.toInt) (b := 0) c_4 rfl (by decide)
    exact jj_vret C ⟨[], pl0, rfl, rfl, hok, hfr, hfa, rfl⟩ dX11_pass_11 (jj_le rfl) (jj_le rfl)
  · have z_c_4 := jc_eq (a := x_3.toInt) (b := 0) c_4 rfl (by decide)
    refine jj_aload_n C dX11_pass_7 rfl ?_
    obtain ⟨qc, gs, hqc⟩ := tt_recv (cx := []) hok hk0 (by decide) rfl
    refine tt_callV (rest := []) C (rc_X11_next_9a6f36 hl D cA ak hk0 hkw hka hkt hki hkf hkp hok hm) [] [] rfl rfl (by decide) (by decide) (by decide) qc hqc rfl rfl jw_a1293b44dc jw_4cea53ed94 jw_1147b3dbc0 jw_f96c99f44d jw_8631b7212c jn_X11_next rfl (jj_le rfl) (jj_le rfl) (jj_le rfl) (jj_le rfl) (jj_le rfl) dX11_pass_8 rfl (fun _ _ _ hX => hX.elim) (fun rx pl_5 r O_9 => ?_)
    obtain ⟨rfl, hok_6, hr_7, ha_8, hR_10⟩ := O_9
    replace hf_2 := hr_7.at hk0 (by decide) (by decide) hf_2
    replace hm := hm.fr hr_7 hk0 rfl
    replace hfr := hfr.trans (hr_7.sub (by decide))
    replace hfa := hfa.trans (ha_8.sub (by decide))
    obtain rfl := hR_10
    exact jj_vret C ⟨[], pl_5, rfl, rfl, hok_6, hfr, hfa, rfl⟩ dX11_pass_11 (jj_le rfl) (jj_le rfl)

set_option maxHeartbeats 4000000 in
set_option maxRecDepth 100000 in
theorem rc_X11_begin_9a6f36 {l : Launch} (hl : l.stackTraces = false) (D : va_G) (cA : Nat → ClassId) (ak : (Nat → Nat) × (Nat → Nat)) {Kd : Nat → Nat} {h0 aw aa at0 ai af ap : Nat} (hk0 : Kd h0 = 1) (hkw : Kd aw = 2) (hka : Kd aa = 3) (hkt : Kd at0 = 4) (hki : Kd ai = 5) (hkf : Kd af = 6) (hkp : Kd ap = 7) {pl0 : va_W} (hok : tt_ok rt_tk cA Kd pl0) (hm : rl_m pl0 h0 aw aa at0 ai af ap) : jj_M l D cA ak yX11_begin (.code yX11_begin cX11_begin 1 none) 2 45 0 0 ([] ++ pl0) [.ref h0] (tt_O (fun rx pl1 r => rx = [] ∧ tt_ok rt_tk cA Kd pl1 ∧ tt_fr Kd [(1, 13), (1, 14), (1, 15), (1, 16), (1, 17)] pl0 pl1 ∧ tt_fa Kd [] pl0 pl1 ∧ ((r = none)))) (tt_OX (fun _ _ _ => False)) := by
  refine jj_start hl (by decide) jw_10a65a4ad6 (jj_le rfl) ?_
  intro p e s m args below meth c A hargs hA C hex hmn
  have hfr := tt_fr.refl (K := Kd) (WS := [(1, 13), (1, 14), (1, 15), (1, 16), (1, 17)]) pl0
  have hfa := tt_fa.refl (K := Kd) (WA := []) pl0
  refine jj_aload_n C dX11_begin_0 rfl ?_
  refine jj_aload_n C dX11_begin_1 rfl ?_
  refine tt_get C hok jk_12 13 (by decide) jw_fabf3762b1 (t := (0, 0, 400)) hk0 (by decide) rfl rfl dX11_begin_2 (fun v_1 hv_1 hf_2 => ?_)
  obtain ⟨x_3, rfl, lx_3, ux_3⟩ := tt_vi hv_1
  refine rl_put C hok jk_12 16 (by decide) jw_28b46cb90c (t := (0, 0, 400)) hk0 (by decide) rfl rfl rfl (tt_iv (by omega) (by omega)) rfl rfl dX11_begin_5 (fun pl_4 hok_5 tr hn tl => ?_)
  replace hf_2 := tr _ _ _ (Or.inr (by decide)) hf_2
  have hf_6 := hn
  replace hm := hm.put tr (by decide)
  replace hfr := hfr.put hk0 tr (by decide)
  replace hfa := hfa.all tl
  refine jj_aload_n C dX11_begin_8 rfl ?_
  refine jj_iconst (v := 0) C dX11_begin_9 (by decide) ?_
  refine rl_put C hok_5 jk_12 13 (by decide) jw_fabf3762b1 (t := (0, 0, 400)) hk0 (by decide) rfl rfl rfl (tt_iv (by decide) (by decide)) rfl rfl dX11_begin_10 (fun pl_7 hok_8 tr hn tl => ?_)
  replace hf_6 := tr _ _ _ (Or.inr (by decide)) hf_6
  have hf_9 := hn
  replace hm := hm.put tr (by decide)
  replace hfr := hfr.put hk0 tr (by decide)
  replace hfa := hfa.all tl
  refine jj_aload_n C dX11_begin_13 rfl ?_
  refine jj_iconst (v := 0) C dX11_begin_14 (by decide) ?_
  refine rl_put C hok_8 jk_12 15 (by decide) jw_165232ba7c (t := (0, 0, 400)) hk0 (by decide) rfl rfl rfl (tt_iv (by decide) (by decide)) rfl rfl dX11_begin_15 (fun pl_10 hok_11 tr hn tl => ?_)
  replace hf_6 := tr _ _ _ (Or.inr (by decide)) hf_6
  replace hf_9 := tr _ _ _ (Or.inr (by decide)) hf_9
  have hf_12 := hn
  replace hm := hm.put tr (by decide)
  replace hfr := hfr.put hk0 tr (by decide)
  replace hfa := hfa.all tl
  refine jj_aload_n C dX11_begin_18 rfl ?_
  refine jj_iconst (v := 0) C dX11_begin_19 (by decide) ?_
  refine rl_put C hok_11 jk_12 17 (by decide) jw_17e99f0710 (t := (0, (-2147483648), 2147483647)) hk0 (by decide) rfl rfl rfl (tt_ia (0 : Int32)) rfl rfl dX11_begin_20 (fun pl_13 hok_14 tr hn tl => ?_)
  replace hf_6 := tr _ _ _ (Or.inr (by decide)) hf_6
  replace hf_9 := tr _ _ _ (Or.inr (by decide)) hf_9
  replace hf_12 := tr _ _ _ (Or.inr (by decide)) hf_12
  have hf_15 := hn
  replace hm := hm.put tr (by decide)
  replace hfr := hfr.put hk0 tr (by decide)
  replace hfa := hfa.all tl
  refine jj_aload_n C dX11_begin_23 rfl ?_
  obtain ⟨qc, gs, hqc⟩ := tt_recv (cx := []) hok_14 hk0 (by decide) rfl
  refine tt_callV (rest := []) C (rc_X11_next_9a6f36 hl D cA ak hk0 hkw hka hkt hki hkf hkp hok_14 hm) [] [] rfl rfl (by decide) (by decide) (by decide) qc hqc rfl rfl jw_a1293b44dc jw_4cea53ed94 jw_1147b3dbc0 jw_f96c99f44d jw_8631b7212c jn_X11_next rfl (jj_le rfl) (jj_le rfl) (jj_le rfl) (jj_le rfl) (jj_le rfl) dX11_begin_24 rfl (fun _ _ _ hX => hX.elim) (fun rx pl_16 r O_20 => ?_)
  obtain ⟨rfl, hok_17, hr_18, ha_19, hR_21⟩ := O_20
  replace hf_6 := hr_18.at hk0 (by decide) (by decide) hf_6
  replace hf_9 := hr_18.at hk0 (by decide) (by decide) hf_9
  replace hf_15 := hr_18.at hk0 (by decide) (by decide) hf_15
  replace hm := hm.fr hr_18 hk0 rfl
  replace hfr := hfr.trans (hr_18.sub (by decide))
  replace hfa := hfa.trans (ha_19.sub (by decide))
  obtain rfl := hR_21
  exact jj_vret C ⟨[], pl_16, rfl, rfl, hok_17, hfr, hfa, rfl⟩ dX11_begin_27 (jj_le rfl) (jj_le rfl)

set_option maxHeartbeats 4000000 in
set_option maxRecDepth 100000 in
theorem rc_X11_errorCode_9a6f36 {l : Launch} (hl : l.stackTraces = false) (D : va_G) (cA : Nat → ClassId) (ak : (Nat → Nat) × (Nat → Nat)) {Kd : Nat → Nat} {h0 aw aa at0 ai af ap : Nat} (hk0 : Kd h0 = 1) (hkw : Kd aw = 2) (hka : Kd aa = 3) (hkt : Kd at0 = 4) (hki : Kd ai = 5) (hkf : Kd af = 6) (hkp : Kd ap = 7) {pl0 : va_W} (hok : tt_ok rt_tk cA Kd pl0) (hm : rl_m pl0 h0 aw aa at0 ai af ap) : jj_M l D cA ak yX11_errorCode (.code yX11_errorCode cX11_errorCode 1 (some .int)) 0 0 0 0 ([] ++ pl0) [.ref h0] (tt_O (fun rx pl1 r => rx = [] ∧ tt_ok rt_tk cA Kd pl1 ∧ tt_fr Kd [(1, 7)] pl0 pl1 ∧ tt_fa Kd [] pl0 pl1 ∧ ((∃ v : Int32, (-2147483648 : Int) ≤ v.toInt ∧ v.toInt ≤ 2147483647 ∧ r = some (.int v))))) (tt_OX (fun _ _ _ => False)) := by
  refine jj_start hl (by decide) jw_120a4e68f7 (jj_le rfl) ?_
  intro p e s m args below meth c A hargs hA C hex hmn
  have hfr := tt_fr.refl (K := Kd) (WS := [(1, 7)]) pl0
  have hfa := tt_fa.refl (K := Kd) (WA := []) pl0
  refine jj_aload_n C dX11_errorCode_0 rfl ?_
  refine jj_iconst (v := 0) C dX11_errorCode_1 (by decide) ?_
  refine rl_put C hok jk_12 7 (by decide) jw_0a65e3738e (t := (0, (-2147483648), 2147483647)) hk0 (by decide) rfl rfl rfl (tt_ia (0 : Int32)) rfl rfl dX11_errorCode_2 (fun pl_1 hok_2 tr hn tl => ?_)
  have hf_3 := hn
  replace hm := hm.put tr (by decide)
  replace hfr := hfr.put hk0 tr (by decide)
  replace hfa := hfa.all tl
  refine jj_aload_n C dX11_errorCode_5 rfl ?_
  refine tt_get C hok_2 jk_12 17 (by decide) jw_17e99f0710 (t := (0, (-2147483648), 2147483647)) hk0 (by decide) rfl rfl dX11_errorCode_6 (fun v_4 hv_4 hf_5 => ?_)
  obtain ⟨x_6, rfl, lx_6, ux_6⟩ := tt_vi hv_4
  exact jj_iret C ⟨[], pl_1, rfl, rfl, hok_2, hfr, hfa, ⟨x_6, (by first | omega | exact tt_lo _ | exact tt_hi _), (by first | omega | exact tt_lo _ | exact tt_hi _), rfl⟩⟩ dX11_errorCode_9 (jj_le rfl) (jj_le rfl)

set_option maxHeartbeats 4000000 in
set_option maxRecDepth 100000 in
theorem rc_X11_errorPosition_9a6f36 {l : Launch} (hl : l.stackTraces = false) (D : va_G) (cA : Nat → ClassId) (ak : (Nat → Nat) × (Nat → Nat)) {Kd : Nat → Nat} {h0 aw aa at0 ai af ap : Nat} (hk0 : Kd h0 = 1) (hkw : Kd aw = 2) (hka : Kd aa = 3) (hkt : Kd at0 = 4) (hki : Kd ai = 5) (hkf : Kd af = 6) (hkp : Kd ap = 7) {pl0 : va_W} (hok : tt_ok rt_tk cA Kd pl0) (hm : rl_m pl0 h0 aw aa at0 ai af ap) : jj_M l D cA ak yX11_errorPosition (.code yX11_errorPosition cX11_errorPosition 1 (some .int)) 0 0 0 0 ([] ++ pl0) [.ref h0] (tt_O (fun rx pl1 r => rx = [] ∧ tt_ok rt_tk cA Kd pl1 ∧ tt_fr Kd [(1, 7)] pl0 pl1 ∧ tt_fa Kd [] pl0 pl1 ∧ ((∃ v : Int32, (-2147483648 : Int) ≤ v.toInt ∧ v.toInt ≤ 2147483647 ∧ r = some (.int v))))) (tt_OX (fun _ _ _ => False)) := by
  refine jj_start hl (by decide) jw_89585a2ded (jj_le rfl) ?_
  intro p e s m args below meth c A hargs hA C hex hmn
  have hfr := tt_fr.refl (K := Kd) (WS := [(1, 7)]) pl0
  have hfa := tt_fa.refl (K := Kd) (WA := []) pl0
  refine jj_aload_n C dX11_errorPosition_0 rfl ?_
  refine jj_iconst (v := 0) C dX11_errorPosition_1 (by decide) ?_
  refine rl_put C hok jk_12 7 (by decide) jw_0a65e3738e (t := (0, (-2147483648), 2147483647)) hk0 (by decide) rfl rfl rfl (tt_ia (0 : Int32)) rfl rfl dX11_errorPosition_2 (fun pl_1 hok_2 tr hn tl => ?_)
  have hf_3 := hn
  replace hm := hm.put tr (by decide)
  replace hfr := hfr.put hk0 tr (by decide)
  replace hfa := hfa.all tl
  refine jj_aload_n C dX11_errorPosition_5 rfl ?_
  refine tt_get C hok_2 jk_12 18 (by decide) jw_a8ef26b797 (t := (0, (-2147483648), 2147483647)) hk0 (by decide) rfl rfl dX11_errorPosition_6 (fun v_4 hv_4 hf_5 => ?_)
  obtain ⟨x_6, rfl, lx_6, ux_6⟩ := tt_vi hv_4
  exact jj_iret C ⟨[], pl_1, rfl, rfl, hok_2, hfr, hfa, ⟨x_6, (by first | omega | exact tt_lo _ | exact tt_hi _), (by first | omega | exact tt_lo _ | exact tt_hi _), rfl⟩⟩ dX11_errorPosition_9 (jj_le rfl) (jj_le rfl)

set_option maxHeartbeats 4000000 in
set_option maxRecDepth 100000 in
theorem rc_X11_count_d8d95c {l : Launch} (hl : l.stackTraces = false) (D : va_G) (cA : Nat → ClassId) (ak : (Nat → Nat) × (Nat → Nat)) {Kd : Nat → Nat} {h0 aw aa at0 ai af ap : Nat} (p1 : Int32) (f : Nat → Int64) (hk0 : Kd h0 = 1) (hkw : Kd aw = 2) (hka : Kd aa = 3) (hkt : Kd at0 = 4) (hki : Kd ai = 5) (hkf : Kd af = 6) (hkp : Kd ap = 7) (hH : rl_h f) {pl0 : va_W} (hok : tt_ok rt_tk cA Kd pl0) (hm : rl_m pl0 h0 aw aa at0 ai af ap) (hC : tt_lc pl0 aw f) : jj_M l D cA ak yX11_count (.code yX11_count cX11_count 2 (some .int)) 1 25 0 0 ([] ++ pl0) [.ref h0, .int p1] (tt_O (fun rx pl1 r => rx = [] ∧ tt_ok rt_tk cA Kd pl1 ∧ tt_fr Kd [(1, 7)] pl0 pl1 ∧ tt_fa Kd [] pl0 pl1 ∧ ((r = some (.int 0)) ∨ (∃ v : Int32, (-2147483648 : Int) ≤ v.toInt ∧ v.toInt ≤ 2147483647 ∧ (0 : Int) ≤ p1.toInt ∧ p1.toInt ≤ 9 ∧ r = some (.int v))))) (tt_OX (fun _ _ _ => False)) := by
  refine jj_start hl (by decide) jw_56287947ed (jj_le rfl) ?_
  intro p e s m args below meth c A hargs hA C hex hmn
  have hfr := tt_fr.refl (K := Kd) (WS := [(1, 7)]) pl0
  have hfa := tt_fa.refl (K := Kd) (WA := []) pl0
  have lp1 := tt_lo p1
  have up1 := tt_hi p1
  obtain ⟨⟨g0a, g0b⟩, ⟨g1a, g1b⟩, ⟨g6a, g6b⟩, ⟨g7a, g7b⟩, ⟨g8a, g8b⟩⟩ := hH
  refine jj_aload_n C dX11_count_0 rfl ?_
  refine jj_iload_n C dX11_count_1 rfl ?_
  obtain ⟨y_1, ey_1, vy_1⟩ := tt_i2l p1
  refine jj_i2l (v := y_1) C dX11_count_2 ey_1 ?_
  refine jj_lconst (v := 0) C dX11_count_3 (by decide) ?_
  refine jj_ldc2 (v := 9) C dX11_count_4 jw_9a85c015b2 ?_
  refine tt_call0S (rest := [.ref h0]) C (ct_X11_in_6 hl D cA ak y_1) jw_2a24feddee jw_12f28ccfda jw_f96c99f44d jw_e07c9ada56 jn_X11_in rfl (jj_le rfl) (jj_le rfl) (jj_le rfl) (jj_le rfl) (jj_le rfl) dX11_count_7 rfl (fun w1 r O_2 => ?_)
  rcases O_2 with ⟨c_3, -, rfl⟩ | ⟨c_4, c_5, -, rfl⟩ | ⟨c_6, c_7, -, rfl⟩
  · have z_c_3 := jc_ltL (a := y_1.toInt) (b := 0) c_3 rfl (by decide)
    refine jj_if_neF (tgt := 17) C dX11_count_10 (by decide) (by decide) ?_
    refine jj_iconst (v := 1) C dX11_count_13 (by decide) ?_
    refine jj_goto (tgt := 18) C dX11_count_14 (by decide) ?_
    refine jj_iconst (v := 1) C dX11_count_18 (by decide) ?_
    obtain ⟨qc, gs, hqc⟩ := tt_recv (cx := []) hok hk0 (by decide) rfl
    refine tt_callV (rest := []) C (rc_X11_fails_f00e4f hl D cA ak hk0 hkw hka hkt hki hkf hkp hok hm) [] [] rfl rfl (by decide) (by decide) (by decide) qc hqc rfl rfl jw_9c28fd2e32 jw_193b10eb43 jw_69bbe80566 jw_f96c99f44d jw_a520512e18 jn_X11_fails rfl (jj_le rfl) (jj_le rfl) (jj_le rfl) (jj_le rfl) (jj_le rfl) dX11_count_19 rfl (fun _ _ _ hX => hX.elim) (fun rx pl_8 r O_12 => ?_)
    obtain ⟨rfl, hok_9, hr_10, ha_11, hR_13⟩ := O_12
    replace hC := ha_11.at hkw (by decide) (by decide) hC
    replace hm := hm.fr hr_10 hk0 rfl
    replace hfr := hfr.trans (hr_10.sub (by decide))
    replace hfa := hfa.trans (ha_11.sub (by decide))
    obtain rfl := hR_13
    refine jj_if_eqF (tgt := 29) C dX11_count_22 (by decide) (by decide) ?_
    refine jj_iconst (v := 0) C dX11_count_25 (by decide) ?_
    refine jj_goto (tgt := 36) C dX11_count_26 (by decide) ?_
    exact jj_iret C ⟨[], pl_8, rfl, rfl, hok_9, hfr, hfa, (Or.inl rfl)⟩ dX11_count_36 (jj_le rfl) (jj_le rfl)
  · have z_c_4 := jc_nltL (a := y_1.toInt) (b := 0) c_4 rfl (by decide)
    have z_c_5 := jc_ltL (a := 9) (b := y_1.toInt) c_5 (by decide) rfl
    refine jj_if_neF (tgt := 17) C dX11_count_10 (by decide) (by decide) ?_
    refine jj_iconst (v := 1) C dX11_count_13 (by decide) ?_
    refine jj_goto (tgt := 18) C dX11_count_14 (by decide) ?_
    refine jj_iconst (v := 1) C dX11_count_18 (by decide) ?_
    obtain ⟨qc, gs, hqc⟩ := tt_recv (cx := []) hok hk0 (by decide) rfl
    refine tt_callV (rest := []) C (rc_X11_fails_f00e4f hl D cA ak hk0 hkw hka hkt hki hkf hkp hok hm) [] [] rfl rfl (by decide) (by decide) (by decide) qc hqc rfl rfl jw_9c28fd2e32 jw_193b10eb43 jw_69bbe80566 jw_f96c99f44d jw_a520512e18 jn_X11_fails rfl (jj_le rfl) (jj_le rfl) (jj_le rfl) (jj_le rfl) (jj_le rfl) dX11_count_19 rfl (fun _ _ _ hX => hX.elim) (fun rx pl_14 r O_18 => ?_)
    obtain ⟨rfl, hok_15, hr_16, ha_17, hR_19⟩ := O_18
    replace hC := ha_17.at hkw (by decide) (by decide) hC
    replace hm := hm.fr hr_16 hk0 rfl
    replace hfr := hfr.trans (hr_16.sub (by decide))
    replace hfa := hfa.trans (ha_17.sub (by decide))
    obtain rfl := hR_19
    refine jj_if_eqF (tgt := 29) C dX11_count_22 (by decide) (by decide) ?_
    refine jj_iconst (v := 0) C dX11_count_25 (by decide) ?_
    refine jj_goto (tgt := 36) C dX11_count_26 (by decide) ?_
    exact jj_iret C ⟨[], pl_14, rfl, rfl, hok_15, hfr, hfa, (Or.inl rfl)⟩ dX11_count_36 (jj_le rfl) (jj_le rfl)
  · have z_c_6 := jc_nltL (a := y_1.toInt) (b := 0) c_6 rfl (by decide)
    have z_c_7 := jc_nltL (a := 9) (b := y_1.toInt) c_7 (by decide) rfl
    refine jj_if_neT (tgt := 17) C dX11_count_10 (by decide) (by decide) ?_
    refine jj_iconst (v := 0) C dX11_count_17 (by decide) ?_
    refine jj_iconst (v := 1) C dX11_count_18 (by decide) ?_
    obtain ⟨qc, gs, hqc⟩ := tt_recv (cx := []) hok hk0 (by decide) rfl
    refine tt_callV (rest := []) C (rc_X11_fails_8f9520 hl D cA ak hk0 hkw hka hkt hki hkf hkp hok hm) [] [] rfl rfl (by decide) (by decide) (by decide) qc hqc rfl rfl jw_9c28fd2e32 jw_193b10eb43 jw_69bbe80566 jw_f96c99f44d jw_a520512e18 jn_X11_fails rfl (jj_le rfl) (jj_le rfl) (jj_le rfl) (jj_le rfl) (jj_le rfl) dX11_count_19 rfl (fun _ _ _ hX => hX.elim) (fun rx pl_20 r O_24 => ?_)
    obtain ⟨rfl, hok_21, hr_22, ha_23, hR_25⟩ := O_24
    replace hC := ha_23.at hkw (by decide) (by decide) hC
    replace hm := hm.fr hr_22 hk0 rfl
    replace hfr := hfr.trans (hr_22.sub (by decide))
    replace hfa := hfa.trans (ha_23.sub (by decide))
    obtain rfl := hR_25
    refine jj_if_eqT (tgt := 29) C dX11_count_22 (by decide) (by decide) ?_
    refine jj_aload_n C dX11_count_29 rfl ?_
    refine tt_getF C hok_21 jk_12 0 (by decide) jw_34eaf3ba8b (t := (2, 2, 0)) hk0 (by decide) rfl rfl hm.1 dX11_count_30 ?_
    refine jj_iload_n C dX11_count_33 rfl ?_
    obtain ⟨n_26, rfl, bn_26⟩ := rl_nat (x := p1) (by omega)
    have vn_26 := rl_ti bn_26
    refine rl_lald C hok_21 (t := (1, (-9223372036854775808), 9223372036854775807)) hkw (by decide) rfl (k := n_26) (v := (f n_26)) (vp_in_nI (by omega) (by decide)) hC (nI_clamp (by omega)) rfl dX11_count_34 ?_
    obtain ⟨x_27, ex_27⟩ : ∃ z : Int32, (f n_26).toInt32 = z := ⟨_, rfl⟩
    refine jj_l2i (v := x_27) C dX11_count_35 ex_27 ?_
    exact jj_iret C ⟨[], pl_20, rfl, rfl, hok_21, hfr, hfa, (Or.inr ⟨x_27, (by first | omega | exact tt_lo _ | exact tt_hi _), (by first | omega | exact tt_lo _ | exact tt_hi _), (by first | omega | exact tt_lo _ | exact tt_hi _), (by first | omega | exact tt_lo _ | exact tt_hi _), rfl⟩)⟩ dX11_count_36 (jj_le rfl) (jj_le rfl)

set_option maxHeartbeats 4000000 in
set_option maxRecDepth 100000 in
theorem rc_X11_account_d8d95c {l : Launch} (hl : l.stackTraces = false) (D : va_G) (cA : Nat → ClassId) (ak : (Nat → Nat) × (Nat → Nat)) {Kd : Nat → Nat} {h0 aw aa at0 ai af ap : Nat} (p1 : Int32) (f : Nat → Int64) (hk0 : Kd h0 = 1) (hkw : Kd aw = 2) (hka : Kd aa = 3) (hkt : Kd at0 = 4) (hki : Kd ai = 5) (hkf : Kd af = 6) (hkp : Kd ap = 7) (hH : rl_h f) {pl0 : va_W} (hok : tt_ok rt_tk cA Kd pl0) (hm : rl_m pl0 h0 aw aa at0 ai af ap) (hC : tt_lc pl0 aw f) : jj_M l D cA ak yX11_account (.code yX11_account cX11_account 2 (some .long)) 1 25 0 0 ([] ++ pl0) [.ref h0, .int p1] (tt_O (fun rx pl1 r => rx = [] ∧ tt_ok rt_tk cA Kd pl1 ∧ tt_fr Kd [(1, 7)] pl0 pl1 ∧ tt_fa Kd [] pl0 pl1 ∧ ((r = some (.long 0)) ∨ (∃ v : Int64, (0 : Int) ≤ p1.toInt ∧ p1.toInt ≤ 5 ∧ r = some (.long v))))) (tt_OX (fun _ _ _ => False)) := by
  refine jj_start hl (by decide) jw_3e9460b5de (jj_le rfl) ?_
  intro p e s m args below meth c A hargs hA C hex hmn
  have hfr := tt_fr.refl (K := Kd) (WS := [(1, 7)]) pl0
  have hfa := tt_fa.refl (K := Kd) (WA := []) pl0
  have lp1 := tt_lo p1
  have up1 := tt_hi p1
  obtain ⟨⟨g0a, g0b⟩, ⟨g1a, g1b⟩, ⟨g6a, g6b⟩, ⟨g7a, g7b⟩, ⟨g8a, g8b⟩⟩ := hH
  refine jj_aload_n C dX11_account_0 rfl ?_
  refine jj_iload_n C dX11_account_1 rfl ?_
  obtain ⟨y_1, ey_1, vy_1⟩ := tt_i2l p1
  refine jj_i2l (v := y_1) C dX11_account_2 ey_1 ?_
  refine jj_lconst (v := 0) C dX11_account_3 (by decide) ?_
  refine jj_ldc2 (v := 5) C dX11_account_4 jw_5892650a06 ?_
  refine tt_call0S (rest := [.ref h0]) C (ct_X11_in_7 hl D cA ak y_1) jw_2a24feddee jw_12f28ccfda jw_f96c99f44d jw_e07c9ada56 jn_X11_in rfl (jj_le rfl) (jj_le rfl) (jj_le rfl) (jj_le rfl) (jj_le rfl) dX11_account_7 rfl (fun w1 r O_2 => ?_)
  rcases O_2 with ⟨c_3, -, rfl⟩ | ⟨c_4, c_5, -, rfl⟩ | ⟨c_6, c_7, -, rfl⟩
  · have z_c_3 := jc_ltL (a := y_1.toInt) (b := 0) c_3 rfl (by decide)
    refine jj_if_neF (tgt := 17) C dX11_account_10 (by decide) (by decide) ?_
    refine jj_iconst (v := 1) C dX11_account_13 (by decide) ?_
    refine jj_goto (tgt := 18) C dX11_account_14 (by decide) ?_
    refine jj_iconst (v := 1) C dX11_account_18 (by decide) ?_
    obtain ⟨qc, gs, hqc⟩ := tt_recv (cx := []) hok hk0 (by decide) rfl
    refine tt_callV (rest := []) C (rc_X11_fails_f00e4f hl D cA ak hk0 hkw hka hkt hki hkf hkp hok hm) [] [] rfl rfl (by decide) (by decide) (by decide) qc hqc rfl rfl jw_9c28fd2e32 jw_193b10eb43 jw_69bbe80566 jw_f96c99f44d jw_a520512e18 jn_X11_fails rfl (jj_le rfl) (jj_le rfl) (jj_le rfl) (jj_le rfl) (jj_le rfl) dX11_account_19 rfl (fun _ _ _ hX => hX.elim) (fun rx pl_8 r O_12 => ?_)
    obtain ⟨rfl, hok_9, hr_10, ha_11, hR_13⟩ := O_12
    replace hC := ha_11.at hkw (by decide) (by decide) hC
    replace hm := hm.fr hr_10 hk0 rfl
    replace hfr := hfr.trans (hr_10.sub (by decide))
    replace hfa := hfa.trans (ha_11.sub (by decide))
    obtain rfl := hR_13
    refine jj_if_eqF (tgt := 29) C dX11_account_22 (by decide) (by decide) ?_
    refine jj_lconst (v := 0) C dX11_account_25 (by decide) ?_
    refine jj_goto (tgt := 38) C dX11_account_26 (by decide) ?_
    exact jj_lret C ⟨[], pl_8, rfl, rfl, hok_9, hfr, hfa, (Or.inl rfl)⟩ dX11_account_38 (jj_le rfl) (jj_le rfl)
  · have z_c_4 := jc_nltL (a := y_1.toInt) (b := 0) c_4 rfl (by decide)
    have z_c_5 := jc_ltL (a := 5) (b := y_1.toInt) c_5 (by decide) rfl
    refine jj_if_neF (tgt := 17) C dX11_account_10 (by decide) (by decide) ?_
    refine jj_iconst (v := 1) C dX11_account_13 (by decide) ?_
    refine jj_goto (tgt := 18) C dX11_account_14 (by decide) ?_
    refine jj_iconst (v := 1) C dX11_account_18 (by decide) ?_
    obtain ⟨qc, gs, hqc⟩ := tt_recv (cx := []) hok hk0 (by decide) rfl
    refine tt_callV (rest := []) C (rc_X11_fails_f00e4f hl D cA ak hk0 hkw hka hkt hki hkf hkp hok hm) [] [] rfl rfl (by decide) (by decide) (by decide) qc hqc rfl rfl jw_9c28fd2e32 jw_193b10eb43 jw_69bbe80566 jw_f96c99f44d jw_a520512e18 jn_X11_fails rfl (jj_le rfl) (jj_le rfl) (jj_le rfl) (jj_le rfl) (jj_le rfl) dX11_account_19 rfl (fun _ _ _ hX => hX.elim) (fun rx pl_14 r O_18 => ?_)
    obtain ⟨rfl, hok_15, hr_16, ha_17, hR_19⟩ := O_18
    replace hC := ha_17.at hkw (by decide) (by decide) hC
    replace hm := hm.fr hr_16 hk0 rfl
    replace hfr := hfr.trans (hr_16.sub (by decide))
    replace hfa := hfa.trans (ha_17.sub (by decide))
    obtain rfl := hR_19
    refine jj_if_eqF (tgt := 29) C dX11_account_22 (by decide) (by decide) ?_
    refine jj_lconst (v := 0) C dX11_account_25 (by decide) ?_
    refine jj_goto (tgt := 38) C dX11_account_26 (by decide) ?_
    exact jj_lret C ⟨[], pl_14, rfl, rfl, hok_15, hfr, hfa, (Or.inl rfl)⟩ dX11_account_38 (jj_le rfl) (jj_le rfl)
  · have z_c_6 := jc_nltL (a := y_1.toInt) (b := 0) c_6 rfl (by decide)
    have z_c_7 := jc_nltL (a := 5) (b := y_1.toInt) c_7 (by decide) rfl
    refine jj_if_neT (tgt := 17) C dX11_account_10 (by decide) (by decide) ?_
    refine jj_iconst (v := 0) C dX11_account_17 (by decide) ?_
    refine jj_iconst (v := 1) C dX11_account_18 (by decide) ?_
    obtain ⟨qc, gs, hqc⟩ := tt_recv (cx := []) hok hk0 (by decide) rfl
    refine tt_callV (rest := []) C (rc_X11_fails_8f9520 hl D cA ak hk0 hkw hka hkt hki hkf hkp hok hm) [] [] rfl rfl (by decide) (by decide) (by decide) qc hqc rfl rfl jw_9c28fd2e32 jw_193b10eb43 jw_69bbe80566 jw_f96c99f44d jw_a520512e18 jn_X11_fails rfl (jj_le rfl) (jj_le rfl) (jj_le rfl) (jj_le rfl) (jj_le rfl) dX11_account_19 rfl (fun _ _ _ hX => hX.elim) (fun rx pl_20 r O_24 => ?_)
    obtain ⟨rfl, hok_21, hr_22, ha_23, hR_25⟩ := O_24
    replace hC := ha_23.at hkw (by decide) (by decide) hC
    replace hm := hm.fr hr_22 hk0 rfl
    replace hfr := hfr.trans (hr_22.sub (by decide))
    replace hfa := hfa.trans (ha_23.sub (by decide))
    obtain rfl := hR_25
    refine jj_if_eqT (tgt := 29) C dX11_account_22 (by decide) (by decide) ?_
    refine jj_aload_n C dX11_account_29 rfl ?_
    refine tt_getF C hok_21 jk_12 0 (by decide) jw_34eaf3ba8b (t := (2, 2, 0)) hk0 (by decide) rfl rfl hm.1 dX11_account_30 ?_
    refine jj_bipush (v := 10) C dX11_account_33 (by decide) ?_
    refine jj_iload_n C dX11_account_35 rfl ?_
    obtain ⟨x_26, ex_26, vx_26⟩ := tt_iadd (x := (10 : Int32)) (y := p1) (a := 10) (by decide) (b := p1.toInt) rfl (by omega) (by omega)
    refine jj_iadd (v := x_26) C dX11_account_36 ex_26 ?_
    obtain ⟨n_27, rfl, bn_27⟩ := rl_nat (x := x_26) (by omega)
    have vn_27 := rl_ti bn_27
    refine rl_lald C hok_21 (t := (1, (-9223372036854775808), 9223372036854775807)) hkw (by decide) rfl (k := n_27) (v := (f n_27)) (vp_in_nI (by omega) (by decide)) hC (nI_clamp (by omega)) rfl dX11_account_37 ?_
    exact jj_lret C ⟨[], pl_20, rfl, rfl, hok_21, hfr, hfa, (Or.inr ⟨(f n_27), (by first | omega | exact tt_lo _ | exact tt_hi _), (by first | omega | exact tt_lo _ | exact tt_hi _), rfl⟩)⟩ dX11_account_38 (jj_le rfl) (jj_le rfl)

set_option maxHeartbeats 4000000 in
set_option maxRecDepth 100000 in
theorem rc_X11_openSeries_d8d95c {l : Launch} (hl : l.stackTraces = false) (D : va_G) (cA : Nat → ClassId) (ak : (Nat → Nat) × (Nat → Nat)) {Kd : Nat → Nat} {h0 aw aa at0 ai af ap : Nat} (p1 : Int32) (f : Nat → Int64) (hk0 : Kd h0 = 1) (hkw : Kd aw = 2) (hka : Kd aa = 3) (hkt : Kd at0 = 4) (hki : Kd ai = 5) (hkf : Kd af = 6) (hkp : Kd ap = 7) (hH : rl_h f) {pl0 : va_W} (hok : tt_ok rt_tk cA Kd pl0) (hm : rl_m pl0 h0 aw aa at0 ai af ap) (hC : tt_lc pl0 aw f) : jj_M l D cA ak yX11_openSeries (.code yX11_openSeries cX11_openSeries 2 (some .int)) 1 25 0 0 ([] ++ pl0) [.ref h0, .int p1] (tt_O (fun rx pl1 r => rx = [] ∧ tt_ok rt_tk cA Kd pl1 ∧ tt_fr Kd [(1, 7)] pl0 pl1 ∧ tt_fa Kd [] pl0 pl1 ∧ ((r = some (.int 0)) ∨ (∃ v : Int32, (-2147483648 : Int) ≤ v.toInt ∧ v.toInt ≤ 2147483647 ∧ (0 : Int) ≤ p1.toInt ∧ p1.toInt ≤ 5 ∧ r = some (.int v))))) (tt_OX (fun _ _ _ => False)) := by
  refine jj_start hl (by decide) jw_5fffbc3722 (jj_le rfl) ?_
  intro p e s m args below meth c A hargs hA C hex hmn
  have hfr := tt_fr.refl (K := Kd) (WS := [(1, 7)]) pl0
  have hfa := tt_fa.refl (K := Kd) (WA := []) pl0
  have lp1 := tt_lo p1
  have up1 := tt_hi p1
  obtain ⟨⟨g0a, g0b⟩, ⟨g1a, g1b⟩, ⟨g6a, g6b⟩, ⟨g7a, g7b⟩, ⟨g8a, g8b⟩⟩ := hH
  refine jj_aload_n C dX11_openSeries_0 rfl ?_
  refine jj_iload_n C dX11_openSeries_1 rfl ?_
  obtain ⟨y_1, ey_1, vy_1⟩ := tt_i2l p1
  refine jj_i2l (v := y_1) C dX11_openSeries_2 ey_1 ?_
  refine jj_lconst (v := 0) C dX11_openSeries_3 (by decide) ?_
  refine jj_aload_n C dX11_openSeries_4 rfl ?_
  refine tt_getF C hok jk_12 0 (by decide) jw_34eaf3ba8b (t := (2, 2, 0)) hk0 (by decide) rfl rfl hm.1 dX11_openSeries_5 ?_
  refine jj_bipush (v := 6) C dX11_openSeries_8 (by decide) ?_
  refine rl_lald C hok (t := (1, (-9223372036854775808), 9223372036854775807)) hkw (by decide) rfl (k := 6) (v := (f 6)) (vp_in_iff.mpr (by decide)) hC (by decide) rfl dX11_openSeries_10 ?_
  refine jj_lconst (v := 1) C dX11_openSeries_11 (by decide) ?_
  obtain ⟨y_2, ey_2, vy_2⟩ := tt_lsub (x := (f 6)) (y := (1 : Int64)) (a := (f 6).toInt) rfl (b := 1) (by decide) (by omega) (by omega)
  refine jj_lsub (v := y_2) C dX11_openSeries_12 ey_2 ?_
  refine tt_call0S (rest := [.ref h0]) C (ct_X11_in_1 hl D cA ak y_1 y_2) jw_2a24feddee jw_12f28ccfda jw_f96c99f44d jw_e07c9ada56 jn_X11_in rfl (jj_le rfl) (jj_le rfl) (jj_le rfl) (jj_le rfl) (jj_le rfl) dX11_openSeries_13 rfl (fun w1 r O_3 => ?_)
  rcases O_3 with ⟨c_4, -, rfl⟩ | ⟨c_5, c_6, -, rfl⟩ | ⟨c_7, c_8, -, rfl⟩
  · have z_c_4 := jc_ltL (a := y_1.toInt) (b := 0) c_4 rfl (by decide)
    refine jj_if_neF (tgt := 23) C dX11_openSeries_16 (by decide) (by decide) ?_
    refine jj_iconst (v := 1) C dX11_openSeries_19 (by decide) ?_
    refine jj_goto (tgt := 24) C dX11_openSeries_20 (by decide) ?_
    refine jj_iconst (v := 1) C dX11_openSeries_24 (by decide) ?_
    obtain ⟨qc, gs, hqc⟩ := tt_recv (cx := []) hok hk0 (by decide) rfl
    refine tt_callV (rest := []) C (rc_X11_fails_f00e4f hl D cA ak hk0 hkw hka hkt hki hkf hkp hok hm) [] [] rfl rfl (by decide) (by decide) (by decide) qc hqc rfl rfl jw_9c28fd2e32 jw_193b10eb43 jw_69bbe80566 jw_f96c99f44d jw_a520512e18 jn_X11_fails rfl (jj_le rfl) (jj_le rfl) (jj_le rfl) (jj_le rfl) (jj_le rfl) dX11_openSeries_25 rfl (fun _ _ _ hX => hX.elim) (fun rx pl_9 r O_13 => ?_)
    obtain ⟨rfl, hok_10, hr_11, ha_12, hR_14⟩ := O_13
    replace hC := ha_12.at hkw (by decide) (by decide) hC
    replace hm := hm.fr hr_11 hk0 rfl
    replace hfr := hfr.trans (hr_11.sub (by decide))
    replace hfa := hfa.trans (ha_12.sub (by decide))
    obtain rfl := hR_14
    refine jj_if_eqF (tgt := 35) C dX11_openSeries_28 (by decide) (by decide) ?_
    refine jj_iconst (v := 0) C dX11_openSeries_31 (by decide) ?_
    refine jj_goto (tgt := 47) C dX11_openSeries_32 (by decide) ?_
    exact jj_iret C ⟨[], pl_9, rfl, rfl, hok_10, hfr, hfa, (Or.inl rfl)⟩ dX11_openSeries_47 (jj_le rfl) (jj_le rfl)
  · have z_c_5 := jc_nltL (a := y_1.toInt) (b := 0) c_5 rfl (by decide)
    have z_c_6 := jc_ltL (a := y_2.toInt) (b := y_1.toInt) c_6 rfl rfl
    refine jj_if_neF (tgt := 23) C dX11_openSeries_16 (by decide) (by decide) ?_
    refine jj_iconst (v := 1) C dX11_openSeries_19 (by decide) ?_
    refine jj_goto (tgt := 24) C dX11_openSeries_20 (by decide) ?_
    refine jj_iconst (v := 1) C dX11_openSeries_24 (by decide) ?_
    obtain ⟨qc, gs, hqc⟩ := tt_recv (cx := []) hok hk0 (by decide) rfl
    refine tt_callV (rest := []) C (rc_X11_fails_f00e4f hl D cA ak hk0 hkw hka hkt hki hkf hkp hok hm) [] [] rfl rfl (by decide) (by decide) (by decide) qc hqc rfl rfl jw_9c28fd2e32 jw_193b10eb43 jw_69bbe80566 jw_f96c99f44d jw_a520512e18 jn_X11_fails rfl (jj_le rfl) (jj_le rfl) (jj_le rfl) (jj_le rfl) (jj_le rfl) dX11_openSeries_25 rfl (fun _ _ _ hX => hX.elim) (fun rx pl_15 r O_19 => ?_)
    obtain ⟨rfl, hok_16, hr_17, ha_18, hR_20⟩ := O_19
    replace hC := ha_18.at hkw (by decide) (by decide) hC
    replace hm := hm.fr hr_17 hk0 rfl
    replace hfr := hfr.trans (hr_17.sub (by decide))
    replace hfa := hfa.trans (ha_18.sub (by decide))
    obtain rfl := hR_20
    refine jj_if_eqF (tgt := 35) C dX11_openSeries_28 (by decide) (by decide) ?_
    refine jj_iconst (v := 0) C dX11_openSeries_31 (by decide) ?_
    refine jj_goto (tgt := 47) C dX11_openSeries_32 (by decide) ?_
    exact jj_iret C ⟨[], pl_15, rfl, rfl, hok_16, hfr, hfa, (Or.inl rfl)⟩ dX11_openSeries_47 (jj_le rfl) (jj_le rfl)
  · have z_c_7 := jc_nltL (a := y_1.toInt) (b := 0) c_7 rfl (by decide)
    have z_c_8 := jc_nltL (a := y_2.toInt) (b := y_1.toInt) c_8 rfl rfl
    refine jj_if_neT (tgt := 23) C dX11_openSeries_16 (by decide) (by decide) ?_
    refine jj_iconst (v := 0) C dX11_openSeries_23 (by decide) ?_
    refine jj_iconst (v := 1) C dX11_openSeries_24 (by decide) ?_
    obtain ⟨qc, gs, hqc⟩ := tt_recv (cx := []) hok hk0 (by decide) rfl
    refine tt_callV (rest := []) C (rc_X11_fails_8f9520 hl D cA ak hk0 hkw hka hkt hki hkf hkp hok hm) [] [] rfl rfl (by decide) (by decide) (by decide) qc hqc rfl rfl jw_9c28fd2e32 jw_193b10eb43 jw_69bbe80566 jw_f96c99f44d jw_a520512e18 jn_X11_fails rfl (jj_le rfl) (jj_le rfl) (jj_le rfl) (jj_le rfl) (jj_le rfl) dX11_openSeries_25 rfl (fun _ _ _ hX => hX.elim) (fun rx pl_21 r O_25 => ?_)
    obtain ⟨rfl, hok_22, hr_23, ha_24, hR_26⟩ := O_25
    replace hC := ha_24.at hkw (by decide) (by decide) hC
    replace hm := hm.fr hr_23 hk0 rfl
    replace hfr := hfr.trans (hr_23.sub (by decide))
    replace hfa := hfa.trans (ha_24.sub (by decide))
    obtain rfl := hR_26
    refine jj_if_eqT (tgt := 35) C dX11_openSeries_28 (by decide) (by decide) ?_
    refine jj_aload_n C dX11_openSeries_35 rfl ?_
    refine tt_getF C hok_22 jk_12 0 (by decide) jw_34eaf3ba8b (t := (2, 2, 0)) hk0 (by decide) rfl rfl hm.1 dX11_openSeries_36 ?_
    refine jj_iload_n C dX11_openSeries_39 rfl ?_
    obtain ⟨n_27, rfl, bn_27⟩ := rl_nat (x := p1) (by omega)
    have vn_27 := rl_ti bn_27
    refine tt_call0S (rest := [.ref aw]) C (rn_seriesAt hl D cA ak n_27 (16 + 5 * n_27) (by omega)) jw_6251557f40 jw_b2cd40a13f jw_f96c99f44d jw_6245231363 jn_X11_seriesAt rfl (jj_le rfl) (jj_le rfl) (jj_le rfl) (jj_le rfl) (jj_le rfl) dX11_openSeries_40 rfl (fun w1 r hO => ?_)
    obtain ⟨-, rfl⟩ := hO
    refine jj_iconst (v := 0) C dX11_openSeries_43 (by decide) ?_
    refine jj_iadd (v := nI (16 + 5 * n_27)) C dX11_openSeries_44 (rl_addR (kn := 0) (by decide) (by omega)) ?_
    refine rl_lald C hok_22 (t := (1, (-9223372036854775808), 9223372036854775807)) hkw (by decide) rfl (k := 16 + 5 * n_27) (v := (f (16 + 5 * n_27))) (vp_in_nI (by omega) (by decide)) hC (nI_clamp (by omega)) rfl dX11_openSeries_45 ?_
    obtain ⟨x_28, ex_28⟩ : ∃ z : Int32, (f (16 + 5 * n_27)).toInt32 = z := ⟨_, rfl⟩
    refine jj_l2i (v := x_28) C dX11_openSeries_46 ex_28 ?_
    exact jj_iret C ⟨[], pl_21, rfl, rfl, hok_22, hfr, hfa, (Or.inr ⟨x_28, (by first | omega | exact tt_lo _ | exact tt_hi _), (by first | omega | exact tt_lo _ | exact tt_hi _), (by first | omega | exact tt_lo _ | exact tt_hi _), (by first | omega | exact tt_lo _ | exact tt_hi _), rfl⟩)⟩ dX11_openSeries_47 (jj_le rfl) (jj_le rfl)

set_option maxHeartbeats 4000000 in
set_option maxRecDepth 100000 in
theorem rc_X11_fails_685228 {l : Launch} (hl : l.stackTraces = false) (D : va_G) (cA : Nat → ClassId) (ak : (Nat → Nat) × (Nat → Nat)) {Kd : Nat → Nat} {h0 aw aa at0 ai af ap : Nat} (hk0 : Kd h0 = 1) (hkw : Kd aw = 2) (hka : Kd aa = 3) (hkt : Kd at0 = 4) (hki : Kd ai = 5) (hkf : Kd af = 6) (hkp : Kd ap = 7) {pl0 : va_W} (hok : tt_ok rt_tk cA Kd pl0) (hm : rl_m pl0 h0 aw aa at0 ai af ap) : jj_M l D cA ak yX11_fails (.code yX11_fails cX11_fails 3 (some .boolean)) 0 0 0 0 ([] ++ pl0) [.ref h0, .int 1, .int 2] (tt_O (fun rx pl1 r => rx = [] ∧ tt_ok rt_tk cA Kd pl1 ∧ tt_fr Kd [(1, 7)] pl0 pl1 ∧ tt_fa Kd [] pl0 pl1 ∧ ((r = some (.int 1))))) (tt_OX (fun _ _ _ => False)) := by
  refine jj_start hl (by decide) jw_a520512e18 (jj_le rfl) ?_
  intro p e s m args below meth c A hargs hA C hex hmn
  have hfr := tt_fr.refl (K := Kd) (WS := [(1, 7)]) pl0
  have hfa := tt_fa.refl (K := Kd) (WA := []) pl0
  refine jj_aload_n C dX11_fails_0 rfl ?_
  refine jj_iload_n C dX11_fails_1 rfl ?_
  refine jj_if_eqF (tgt := 9) C dX11_fails_2 (by decide) (by decide) ?_
  refine jj_iload_n C dX11_fails_5 rfl ?_
  refine jj_goto (tgt := 10) C dX11_fails_6 (by decide) ?_
  refine rl_put C hok jk_12 7 (by decide) jw_0a65e3738e (t := (0, (-2147483648), 2147483647)) hk0 (by decide) rfl rfl rfl (tt_ia (2 : Int32)) rfl rfl dX11_fails_10 (fun pl_1 hok_2 tr hn tl => ?_)
  have hf_3 := hn
  replace hm := hm.put tr (by decide)
  replace hfr := hfr.put hk0 tr (by decide)
  replace hfa := hfa.all tl
  refine jj_iload_n C dX11_fails_13 rfl ?_
  exact jj_zret C rfl ⟨[], pl_1, rfl, rfl, hok_2, hfr, hfa, rfl⟩ dX11_fails_14 (jj_le rfl) (jj_le rfl)

set_option maxHeartbeats 4000000 in
set_option maxRecDepth 100000 in
theorem rc_X11_fails_a6808a {l : Launch} (hl : l.stackTraces = false) (D : va_G) (cA : Nat → ClassId) (ak : (Nat → Nat) × (Nat → Nat)) {Kd : Nat → Nat} {h0 aw aa at0 ai af ap : Nat} (hk0 : Kd h0 = 1) (hkw : Kd aw = 2) (hka : Kd aa = 3) (hkt : Kd at0 = 4) (hki : Kd ai = 5) (hkf : Kd af = 6) (hkp : Kd ap = 7) {pl0 : va_W} (hok : tt_ok rt_tk cA Kd pl0) (hm : rl_m pl0 h0 aw aa at0 ai af ap) : jj_M l D cA ak yX11_fails (.code yX11_fails cX11_fails 3 (some .boolean)) 0 0 0 0 ([] ++ pl0) [.ref h0, .int 0, .int 2] (tt_O (fun rx pl1 r => rx = [] ∧ tt_ok rt_tk cA Kd pl1 ∧ tt_fr Kd [(1, 7)] pl0 pl1 ∧ tt_fa Kd [] pl0 pl1 ∧ ((r = some (.int 0))))) (tt_OX (fun _ _ _ => False)) := by
  refine jj_start hl (by decide) jw_a520512e18 (jj_le rfl) ?_
  intro p e s m args below meth c A hargs hA C hex hmn
  have hfr := tt_fr.refl (K := Kd) (WS := [(1, 7)]) pl0
  have hfa := tt_fa.refl (K := Kd) (WA := []) pl0
  refine jj_aload_n C dX11_fails_0 rfl ?_
  refine jj_iload_n C dX11_fails_1 rfl ?_
  refine jj_if_eqT (tgt := 9) C dX11_fails_2 (by decide) (by decide) ?_
  refine jj_iconst (v := 0) C dX11_fails_9 (by decide) ?_
  refine rl_put C hok jk_12 7 (by decide) jw_0a65e3738e (t := (0, (-2147483648), 2147483647)) hk0 (by decide) rfl rfl rfl (tt_ia (0 : Int32)) rfl rfl dX11_fails_10 (fun pl_1 hok_2 tr hn tl => ?_)
  have hf_3 := hn
  replace hm := hm.put tr (by decide)
  replace hfr := hfr.put hk0 tr (by decide)
  replace hfa := hfa.all tl
  refine jj_iload_n C dX11_fails_13 rfl ?_
  exact jj_zret C rfl ⟨[], pl_1, rfl, rfl, hok_2, hfr, hfa, rfl⟩ dX11_fails_14 (jj_le rfl) (jj_le rfl)

set_option maxHeartbeats 4000000 in
set_option maxRecDepth 100000 in
theorem rc_X11_lot_bd5ac9 {l : Launch} (hl : l.stackTraces = false) (D : va_G) (cA : Nat → ClassId) (ak : (Nat → Nat) × (Nat → Nat)) {Kd : Nat → Nat} {h0 aw aa at0 ai af ap : Nat} (p1 : Int32) (p2 : Int32) (f : Nat → Int64) (hk0 : Kd h0 = 1) (hkw : Kd aw = 2) (hka : Kd aa = 3) (hkt : Kd at0 = 4) (hki : Kd ai = 5) (hkf : Kd af = 6) (hkp : Kd ap = 7) (hH : rl_h f) {pl0 : va_W} (hok : tt_ok rt_tk cA Kd pl0) (hm : rl_m pl0 h0 aw aa at0 ai af ap) (hC : tt_lc pl0 aw f) : jj_M l D cA ak yX11_lot (.code yX11_lot cX11_lot 3 (some .long)) 1 25 0 0 ([] ++ pl0) [.ref h0, .int p1, .int p2] (tt_O (fun rx pl1 r => rx = [] ∧ tt_ok rt_tk cA Kd pl1 ∧ tt_fr Kd [(1, 7)] pl0 pl1 ∧ tt_fa Kd [] pl0 pl1 ∧ ((r = some (.long 0)) ∨ (∃ v : Int64, (0 : Int) ≤ p1.toInt ∧ p1.toInt ≤ 39 ∧ (0 : Int) ≤ p2.toInt ∧ p2.toInt ≤ 5 ∧ r = some (.long v))))) (tt_OX (fun _ _ _ => False)) := by
  refine jj_start hl (by decide) jw_e3c1929b38 (jj_le rfl) ?_
  intro p e s m args below meth c A hargs hA C hex hmn
  have hfr := tt_fr.refl (K := Kd) (WS := [(1, 7)]) pl0
  have hfa := tt_fa.refl (K := Kd) (WA := []) pl0
  have lp1 := tt_lo p1
  have up1 := tt_hi p1
  have lp2 := tt_lo p2
  have up2 := tt_hi p2
  obtain ⟨⟨g0a, g0b⟩, ⟨g1a, g1b⟩, ⟨g6a, g6b⟩, ⟨g7a, g7b⟩, ⟨g8a, g8b⟩⟩ := hH
  refine jj_aload_n C dX11_lot_0 rfl ?_
  refine jj_iload_n C dX11_lot_1 rfl ?_
  obtain ⟨y_1, ey_1, vy_1⟩ := tt_i2l p1
  refine jj_i2l (v := y_1) C dX11_lot_2 ey_1 ?_
  refine jj_lconst (v := 0) C dX11_lot_3 (by decide) ?_
  refine jj_aload_n C dX11_lot_4 rfl ?_
  refine tt_getF C hok jk_12 0 (by decide) jw_34eaf3ba8b (t := (2, 2, 0)) hk0 (by decide) rfl rfl hm.1 dX11_lot_5 ?_
  refine jj_bipush (v := 7) C dX11_lot_8 (by decide) ?_
  refine rl_lald C hok (t := (1, (-9223372036854775808), 9223372036854775807)) hkw (by decide) rfl (k := 7) (v := (f 7)) (vp_in_iff.mpr (by decide)) hC (by decide) rfl dX11_lot_10 ?_
  refine jj_lconst (v := 1) C dX11_lot_11 (by decide) ?_
  obtain ⟨y_2, ey_2, vy_2⟩ := tt_lsub (x := (f 7)) (y := (1 : Int64)) (a := (f 7).toInt) rfl (b := 1) (by decide) (by omega) (by omega)
  refine jj_lsub (v := y_2) C dX11_lot_12 ey_2 ?_
  refine tt_call0S (rest := [.ref h0]) C (ct_X11_in_1 hl D cA ak y_1 y_2) jw_2a24feddee jw_12f28ccfda jw_f96c99f44d jw_e07c9ada56 jn_X11_in rfl (jj_le rfl) (jj_le rfl) (jj_le rfl) (jj_le rfl) (jj_le rfl) dX11_lot_13 rfl (fun w1 r O_3 => ?_)
  rcases O_3 with ⟨c_4, -, rfl⟩ | ⟨c_5, c_6, -, rfl⟩ | ⟨c_7, c_8, -, rfl⟩
  · have z_c_4 := jc_ltL (a := y_1.toInt) (b := 0) c_4 rfl (by decide)
    refine jj_if_neF (tgt := 23) C dX11_lot_16 (by decide) (by decide) ?_
    refine jj_iconst (v := 1) C dX11_lot_19 (by decide) ?_
    refine jj_goto (tgt := 24) C dX11_lot_20 (by decide) ?_
    refine jj_iconst (v := 1) C dX11_lot_24 (by decide) ?_
    obtain ⟨qc, gs, hqc⟩ := tt_recv (cx := []) hok hk0 (by decide) rfl
    refine tt_callV (rest := []) C (rc_X11_fails_f00e4f hl D cA ak hk0 hkw hka hkt hki hkf hkp hok hm) [] [] rfl rfl (by decide) (by decide) (by decide) qc hqc rfl rfl jw_9c28fd2e32 jw_193b10eb43 jw_69bbe80566 jw_f96c99f44d jw_a520512e18 jn_X11_fails rfl (jj_le rfl) (jj_le rfl) (jj_le rfl) (jj_le rfl) (jj_le rfl) dX11_lot_25 rfl (fun _ _ _ hX => hX.elim) (fun rx pl_9 r O_13 => ?_)
    obtain ⟨rfl, hok_10, hr_11, ha_12, hR_14⟩ := O_13
    replace hC := ha_12.at hkw (by decide) (by decide) hC
    replace hm := hm.fr hr_11 hk0 rfl
    replace hfr := hfr.trans (hr_11.sub (by decide))
    replace hfa := hfa.trans (ha_12.sub (by decide))
    obtain rfl := hR_14
    refine jj_if_neT (tgt := 56) C dX11_lot_28 (by decide) (by decide) ?_
    refine jj_lconst (v := 0) C dX11_lot_56 (by decide) ?_
    refine jj_goto (tgt := 71) C dX11_lot_57 (by decide) ?_
    exact jj_lret C ⟨[], pl_9, rfl, rfl, hok_10, hfr, hfa, (Or.inl rfl)⟩ dX11_lot_71 (jj_le rfl) (jj_le rfl)
  · have z_c_5 := jc_nltL (a := y_1.toInt) (b := 0) c_5 rfl (by decide)
    have z_c_6 := jc_ltL (a := y_2.toInt) (b := y_1.toInt) c_6 rfl rfl
    refine jj_if_neF (tgt := 23) C dX11_lot_16 (by decide) (by decide) ?_
    refine jj_iconst (v := 1) C dX11_lot_19 (by decide) ?_
    refine jj_goto (tgt := 24) C dX11_lot_20 (by decide) ?_
    refine jj_iconst (v := 1) C dX11_lot_24 (by decide) ?_
    obtain ⟨qc, gs, hqc⟩ := tt_recv (cx := []) hok hk0 (by decide) rfl
    refine tt_callV (rest := []) C (rc_X11_fails_f00e4f hl D cA ak hk0 hkw hka hkt hki hkf hkp hok hm) [] [] rfl rfl (by decide) (by decide) (by decide) qc hqc rfl rfl jw_9c28fd2e32 jw_193b10eb43 jw_69bbe80566 jw_f96c99f44d jw_a520512e18 jn_X11_fails rfl (jj_le rfl) (jj_le rfl) (jj_le rfl) (jj_le rfl) (jj_le rfl) dX11_lot_25 rfl (fun _ _ _ hX => hX.elim) (fun rx pl_15 r O_19 => ?_)
    obtain ⟨rfl, hok_16, hr_17, ha_18, hR_20⟩ := O_19
    replace hC := ha_18.at hkw (by decide) (by decide) hC
    replace hm := hm.fr hr_17 hk0 rfl
    replace hfr := hfr.trans (hr_17.sub (by decide))
    replace hfa := hfa.trans (ha_18.sub (by decide))
    obtain rfl := hR_20
    refine jj_if_neT (tgt := 56) C dX11_lot_28 (by decide) (by decide) ?_
    refine jj_lconst (v := 0) C dX11_lot_56 (by decide) ?_
    refine jj_goto (tgt := 71) C dX11_lot_57 (by decide) ?_
    exact jj_lret C ⟨[], pl_15, rfl, rfl, hok_16, hfr, hfa, (Or.inl rfl)⟩ dX11_lot_71 (jj_le rfl) (jj_le rfl)
  · have z_c_7 := jc_nltL (a := y_1.toInt) (b := 0) c_7 rfl (by decide)
    have z_c_8 := jc_nltL (a := y_2.toInt) (b := y_1.toInt) c_8 rfl rfl
    refine jj_if_neT (tgt := 23) C dX11_lot_16 (by decide) (by decide) ?_
    refine jj_iconst (v := 0) C dX11_lot_23 (by decide) ?_
    refine jj_iconst (v := 1) C dX11_lot_24 (by decide) ?_
    obtain ⟨qc, gs, hqc⟩ := tt_recv (cx := []) hok hk0 (by decide) rfl
    refine tt_callV (rest := []) C (rc_X11_fails_8f9520 hl D cA ak hk0 hkw hka hkt hki hkf hkp hok hm) [] [] rfl rfl (by decide) (by decide) (by decide) qc hqc rfl rfl jw_9c28fd2e32 jw_193b10eb43 jw_69bbe80566 jw_f96c99f44d jw_a520512e18 jn_X11_fails rfl (jj_le rfl) (jj_le rfl) (jj_le rfl) (jj_le rfl) (jj_le rfl) dX11_lot_25 rfl (fun _ _ _ hX => hX.elim) (fun rx pl_21 r O_25 => ?_)
    obtain ⟨rfl, hok_22, hr_23, ha_24, hR_26⟩ := O_25
    replace hC := ha_24.at hkw (by decide) (by decide) hC
    replace hm := hm.fr hr_23 hk0 rfl
    replace hfr := hfr.trans (hr_23.sub (by decide))
    replace hfa := hfa.trans (ha_24.sub (by decide))
    obtain rfl := hR_26
    refine jj_if_neF (tgt := 56) C dX11_lot_28 (by decide) (by decide) ?_
    refine jj_aload_n C dX11_lot_31 rfl ?_
    refine jj_iload_n C dX11_lot_32 rfl ?_
    obtain ⟨y_27, ey_27, vy_27⟩ := tt_i2l p2
    refine jj_i2l (v := y_27) C dX11_lot_33 ey_27 ?_
    refine jj_lconst (v := 0) C dX11_lot_34 (by decide) ?_
    refine jj_ldc2 (v := 5) C dX11_lot_35 jw_5892650a06 ?_
    refine tt_call0S (rest := [.ref h0]) C (ct_X11_in_7 hl D cA ak y_27) jw_2a24feddee jw_12f28ccfda jw_f96c99f44d jw_e07c9ada56 jn_X11_in rfl (jj_le rfl) (jj_le rfl) (jj_le rfl) (jj_le rfl) (jj_le rfl) dX11_lot_38 rfl (fun w1 r O_28 => ?_)
    rcases O_28 with ⟨c_29, -, rfl⟩ | ⟨c_30, c_31, -, rfl⟩ | ⟨c_32, c_33, -, rfl⟩
    · have z_c_29 := jc_ltL (a := y_27.toInt) (b := 0) c_29 rfl (by decide)
      refine jj_if_neF (tgt := 48) C dX11_lot_41 (by decide) (by decide) ?_
      refine jj_iconst (v := 1) C dX11_lot_44 (by decide) ?_
      refine jj_goto (tgt := 49) C dX11_lot_45 (by decide) ?_
      refine jj_iconst (v := 2) C dX11_lot_49 (by decide) ?_
      obtain ⟨qc, gs, hqc⟩ := tt_recv (cx := []) hok_22 hk0 (by decide) rfl
      refine tt_callV (rest := []) C (rc_X11_fails_685228 hl D cA ak hk0 hkw hka hkt hki hkf hkp hok_22 hm) [] [] rfl rfl (by decide) (by decide) (by decide) qc hqc rfl rfl jw_9c28fd2e32 jw_193b10eb43 jw_69bbe80566 jw_f96c99f44d jw_a520512e18 jn_X11_fails rfl (jj_le rfl) (jj_le rfl) (jj_le rfl) (jj_le rfl) (jj_le rfl) dX11_lot_50 rfl (fun _ _ _ hX => hX.elim) (fun rx pl_34 r O_38 => ?_)
      obtain ⟨rfl, hok_35, hr_36, ha_37, hR_39⟩ := O_38
      replace hC := ha_37.at hkw (by decide) (by decide) hC
      replace hm := hm.fr hr_36 hk0 rfl
      replace hfr := hfr.trans (hr_36.sub (by decide))
      replace hfa := hfa.trans (ha_37.sub (by decide))
      obtain rfl := hR_39
      refine jj_if_eqF (tgt := 60) C dX11_lot_53 (by decide) (by decide) ?_
      refine jj_lconst (v := 0) C dX11_lot_56 (by decide) ?_
      refine jj_goto (tgt := 71) C dX11_lot_57 (by decide) ?_
      exact jj_lret C ⟨[], pl_34, rfl, rfl, hok_35, hfr, hfa, (Or.inl rfl)⟩ dX11_lot_71 (jj_le rfl) (jj_le rfl)
    · have z_c_30 := jc_nltL (a := y_27.toInt) (b := 0) c_30 rfl (by decide)
      have z_c_31 := jc_ltL (a := 5) (b := y_27.toInt) c_31 (by decide) rfl
      refine jj_if_neF (tgt := 48) C dX11_lot_41 (by decide) (by decide) ?_
      refine jj_iconst (v := 1) C dX11_lot_44 (by decide) ?_
      refine jj_goto (tgt := 49) C dX11_lot_45 (by decide) ?_
      refine jj_iconst (v := 2) C dX11_lot_49 (by decide) ?_
      obtain ⟨qc, gs, hqc⟩ := tt_recv (cx := []) hok_22 hk0 (by decide) rfl
      refine tt_callV (rest := []) C (rc_X11_fails_685228 hl D cA ak hk0 hkw hka hkt hki hkf hkp hok_22 hm) [] [] rfl rfl (by decide) (by decide) (by decide) qc hqc rfl rfl jw_9c28fd2e32 jw_193b10eb43 jw_69bbe80566 jw_f96c99f44d jw_a520512e18 jn_X11_fails rfl (jj_le rfl) (jj_le rfl) (jj_le rfl) (jj_le rfl) (jj_le rfl) dX11_lot_50 rfl (fun _ _ _ hX => hX.elim) (fun rx pl_40 r O_44 => ?_)
      obtain ⟨rfl, hok_41, hr_42, ha_43, hR_45⟩ := O_44
      replace hC := ha_43.at hkw (by decide) (by decide) hC
      replace hm := hm.fr hr_42 hk0 rfl
      replace hfr := hfr.trans (hr_42.sub (by decide))
      replace hfa := hfa.trans (ha_43.sub (by decide))
      obtain rfl := hR_45
      refine jj_if_eqF (tgt := 60) C dX11_lot_53 (by decide) (by decide) ?_
      refine jj_lconst (v := 0) C dX11_lot_56 (by decide) ?_
      refine jj_goto (tgt := 71) C dX11_lot_57 (by decide) ?_
      exact jj_lret C ⟨[], pl_40, rfl, rfl, hok_41, hfr, hfa, (Or.inl rfl)⟩ dX11_lot_71 (jj_le rfl) (jj_le rfl)
    · have z_c_32 := jc_nltL (a := y_27.toInt) (b := 0) c_32 rfl (by decide)
      have z_c_33 := jc_nltL (a := 5) (b := y_27.toInt) c_33 (by decide) rfl
      refine jj_if_neT (tgt := 48) C dX11_lot_41 (by decide) (by decide) ?_
      refine jj_iconst (v := 0) C dX11_lot_48 (by decide) ?_
      refine jj_iconst (v := 2) C dX11_lot_49 (by decide) ?_
      obtain ⟨qc, gs, hqc⟩ := tt_recv (cx := []) hok_22 hk0 (by decide) rfl
      refine tt_callV (rest := []) C (rc_X11_fails_a6808a hl D cA ak hk0 hkw hka hkt hki hkf hkp hok_22 hm) [] [] rfl rfl (by decide) (by decide) (by decide) qc hqc rfl rfl jw_9c28fd2e32 jw_193b10eb43 jw_69bbe80566 jw_f96c99f44d jw_a520512e18 jn_X11_fails rfl (jj_le rfl) (jj_le rfl) (jj_le rfl) (jj_le rfl) (jj_le rfl) dX11_lot_50 rfl (fun _ _ _ hX => hX.elim) (fun rx pl_46 r O_50 => ?_)
      obtain ⟨rfl, hok_47, hr_48, ha_49, hR_51⟩ := O_50
      replace hC := ha_49.at hkw (by decide) (by decide) hC
      replace hm := hm.fr hr_48 hk0 rfl
      replace hfr := hfr.trans (hr_48.sub (by decide))
      replace hfa := hfa.trans (ha_49.sub (by decide))
      obtain rfl := hR_51
      refine jj_if_eqT (tgt := 60) C dX11_lot_53 (by decide) (by decide) ?_
      refine jj_aload_n C dX11_lot_60 rfl ?_
      refine tt_getF C hok_47 jk_12 0 (by decide) jw_34eaf3ba8b (t := (2, 2, 0)) hk0 (by decide) rfl rfl hm.1 dX11_lot_61 ?_
      refine jj_iload_n C dX11_lot_64 rfl ?_
      obtain ⟨n_52, rfl, bn_52⟩ := rl_nat (x := p1) (by omega)
      have vn_52 := rl_ti bn_52
      refine tt_call0S (rest := [.ref aw]) C (rn_lotAt hl D cA ak n_52 (46 + 6 * n_52) (by omega)) jw_4c8c4b88e2 jw_0fa3e2bccb jw_f96c99f44d jw_d540d98a1c jn_X11_lotAt rfl (jj_le rfl) (jj_le rfl) (jj_le rfl) (jj_le rfl) (jj_le rfl) dX11_lot_65 rfl (fun w1 r hO => ?_)
      obtain ⟨-, rfl⟩ := hO
      refine jj_iload_n C dX11_lot_68 rfl ?_
      obtain ⟨n_53, rfl, bn_53⟩ := rl_nat (x := p2) (by omega)
      have vn_53 := rl_ti bn_53
      refine jj_iadd (v := nI (46 + 6 * n_52 + n_53)) C dX11_lot_69 (rl_add (by omega)) ?_
      refine rl_lald C hok_47 (t := (1, (-9223372036854775808), 9223372036854775807)) hkw (by decide) rfl (k := 46 + 6 * n_52 + n_53) (v := (f (46 + 6 * n_52 + n_53))) (vp_in_nI (by omega) (by decide)) hC (nI_clamp (by omega)) rfl dX11_lot_70 ?_
      exact jj_lret C ⟨[], pl_46, rfl, rfl, hok_47, hfr, hfa, (Or.inr ⟨(f (46 + 6 * n_52 + n_53)), (by first | omega | exact tt_lo _ | exact tt_hi _), (by first | omega | exact tt_lo _ | exact tt_hi _), (by first | omega | exact tt_lo _ | exact tt_hi _), (by first | omega | exact tt_lo _ | exact tt_hi _), rfl⟩)⟩ dX11_lot_71 (jj_le rfl) (jj_le rfl)

set_option maxHeartbeats 4000000 in
set_option maxRecDepth 100000 in
theorem rc_X11_request_bd5ac9 {l : Launch} (hl : l.stackTraces = false) (D : va_G) (cA : Nat → ClassId) (ak : (Nat → Nat) × (Nat → Nat)) {Kd : Nat → Nat} {h0 aw aa at0 ai af ap : Nat} (p1 : Int32) (p2 : Int32) (f : Nat → Int64) (hk0 : Kd h0 = 1) (hkw : Kd aw = 2) (hka : Kd aa = 3) (hkt : Kd at0 = 4) (hki : Kd ai = 5) (hkf : Kd af = 6) (hkp : Kd ap = 7) (hH : rl_h f) {pl0 : va_W} (hok : tt_ok rt_tk cA Kd pl0) (hm : rl_m pl0 h0 aw aa at0 ai af ap) (hC : tt_lc pl0 aw f) : jj_M l D cA ak yX11_request (.code yX11_request cX11_request 3 (some .long)) 2 46 0 0 ([] ++ pl0) [.ref h0, .int p1, .int p2] (tt_O (fun rx pl1 r => rx = [] ∧ tt_ok rt_tk cA Kd pl1 ∧ tt_fr Kd [(1, 7)] pl0 pl1 ∧ tt_fa Kd [] pl0 pl1 ∧ ((r = some (.long 0)) ∨ (∃ v : Int64, (0 : Int) ≤ p1.toInt ∧ p1.toInt ≤ 11 ∧ (0 : Int) ≤ p2.toInt ∧ p2.toInt ≤ 3 ∧ r = some (.long v))))) (tt_OX (fun _ _ _ => False)) := by
  refine jj_start hl (by decide) jw_0cd805615d (jj_le rfl) ?_
  intro p e s m args below meth c A hargs hA C hex hmn
  have hfr := tt_fr.refl (K := Kd) (WS := [(1, 7)]) pl0
  have hfa := tt_fa.refl (K := Kd) (WA := []) pl0
  have lp1 := tt_lo p1
  have up1 := tt_hi p1
  have lp2 := tt_lo p2
  have up2 := tt_hi p2
  obtain ⟨⟨g0a, g0b⟩, ⟨g1a, g1b⟩, ⟨g6a, g6b⟩, ⟨g7a, g7b⟩, ⟨g8a, g8b⟩⟩ := hH
  refine jj_aload_n C dX11_request_0 rfl ?_
  refine jj_iload_n C dX11_request_1 rfl ?_
  obtain ⟨qc, gs, hqc⟩ := tt_recv (cx := []) hok hk0 (by decide) rfl
  refine tt_callV (rest := []) C (rc_X11_isNoRequest_d8d95c hl D cA ak p1 _ hk0 hkw hka hkt hki hkf hkp ⟨⟨g0a, g0b⟩, ⟨g1a, g1b⟩, ⟨g6a, g6b⟩, ⟨g7a, g7b⟩, ⟨g8a, g8b⟩⟩ hok hm hC) [] [] rfl rfl (by decide) (by decide) (by decide) qc hqc rfl rfl jw_1118ba758b jw_4c29d1d481 jw_f79fbf9a9e jw_f96c99f44d jw_c6d824393d jn_X11_isNoRequest rfl (jj_le rfl) (jj_le rfl) (jj_le rfl) (jj_le rfl) (jj_le rfl) dX11_request_2 rfl (fun _ _ _ hX => hX.elim) (fun rx pl_1 r O_5 => ?_)
  obtain ⟨rfl, hok_2, hr_3, ha_4, hR_6⟩ := O_5
  replace hC := ha_4.at hkw (by decide) (by decide) hC
  replace hm := hm.fr hr_3 hk0 rfl
  replace hfr := hfr.trans (hr_3.sub (by decide))
  replace hfa := hfa.trans (ha_4.sub (by decide))
  rcases hR_6 with rfl | ⟨l_7, u_8, rfl⟩
  · refine jj_if_neT (tgt := 33) C dX11_request_5 (by decide) (by decide) ?_
    refine jj_lconst (v := 0) C dX11_request_33 (by decide) ?_
    refine jj_goto (tgt := 48) C dX11_request_34 (by decide) ?_
    exact jj_lret C ⟨[], pl_1, rfl, rfl, hok_2, hfr, hfa, (Or.inl rfl)⟩ dX11_request_48 (jj_le rfl) (jj_le rfl)
  · refine jj_if_neF (tgt := 33) C dX11_request_5 (by decide) (by decide) ?_
    refine jj_aload_n C dX11_request_8 rfl ?_
    refine jj_iload_n C dX11_request_9 rfl ?_
    obtain ⟨y_9, ey_9, vy_9⟩ := tt_i2l p2
    refine jj_i2l (v := y_9) C dX11_request_10 ey_9 ?_
    refine jj_lconst (v := 0) C dX11_request_11 (by decide) ?_
    refine jj_ldc2 (v := 3) C dX11_request_12 jw_3ddeacbc7d ?_
    refine tt_call0S (rest := [.ref h0]) C (ct_X11_in_8 hl D cA ak y_9) jw_2a24feddee jw_12f28ccfda jw_f96c99f44d jw_e07c9ada56 jn_X11_in rfl (jj_le rfl) (jj_le rfl) (jj_le rfl) (jj_le rfl) (jj_le rfl) dX11_request_15 rfl (fun w1 r O_10 => ?_)
    rcases O_10 with ⟨c_11, -, rfl⟩ | ⟨c_12, c_13, -, rfl⟩ | ⟨c_14, c_15, -, rfl⟩
    · have z_c_11 := jc_ltL (a := y_9.toInt) (b := 0) c_11 rfl (by decide)
      refine jj_if_neF (tgt := 25) C dX11_request_18 (by decide) (by decide) ?_
      refine jj_iconst (v := 1) C dX11_request_21 (by decide) ?_
      refine jj_goto (tgt := 26) C dX11_request_22 (by decide) ?_
      refine jj_iconst (v := 2) C dX11_request_26 (by decide) ?_
      obtain ⟨qc, gs, hqc⟩ := tt_recv (cx := []) hok_2 hk0 (by decide) rfl
      refine tt_callV (rest := []) C (rc_X11_fails_685228 hl D cA ak hk0 hkw hka hkt hki hkf hkp hok_2 hm) [] [] rfl rfl (by decide) (by decide) (by decide) qc hqc rfl rfl jw_9c28fd2e32 jw_193b10eb43 jw_69bbe80566 jw_f96c99f44d jw_a520512e18 jn_X11_fails rfl (jj_le rfl) (jj_le rfl) (jj_le rfl) (jj_le rfl) (jj_le rfl) dX11_request_27 rfl (fun _ _ _ hX => hX.elim) (fun rx pl_16 r O_20 => ?_)
      obtain ⟨rfl, hok_17, hr_18, ha_19, hR_21⟩ := O_20
      replace hC := ha_19.at hkw (by decide) (by decide) hC
      replace hm := hm.fr hr_18 hk0 rfl
      replace hfr := hfr.trans (hr_18.sub (by decide))
      replace hfa := hfa.trans (ha_19.sub (by decide))
      obtain rfl := hR_21
      refine jj_if_eqF (tgt := 37) C dX11_request_30 (by decide) (by decide) ?_
      refine jj_lconst (v := 0) C dX11_request_33 (by decide) ?_
      refine jj_goto (tgt := 48) C dX11_request_34 (by decide) ?_
      exact jj_lret C ⟨[], pl_16, rfl, rfl, hok_17, hfr, hfa, (Or.inl rfl)⟩ dX11_request_48 (jj_le rfl) (jj_le rfl)
    · have z_c_12 := jc_nltL (a := y_9.toInt) (b := 0) c_12 rfl (by decide)
      have z_c_13 := jc_ltL (a := 3) (b := y_9.toInt) c_13 (by decide) rfl
      refine jj_if_neF (tgt := 25) C dX11_request_18 (by decide) (by decide) ?_
      refine jj_iconst (v := 1) C dX11_request_21 (by decide) ?_
      refine jj_goto (tgt := 26) C dX11_request_22 (by decide) ?_
      refine jj_iconst (v := 2) C dX11_request_26 (by decide) ?_
      obtain ⟨qc, gs, hqc⟩ := tt_recv (cx := []) hok_2 hk0 (by decide) rfl
      refine tt_callV (rest := []) C (rc_X11_fails_685228 hl D cA ak hk0 hkw hka hkt hki hkf hkp hok_2 hm) [] [] rfl rfl (by decide) (by decide) (by decide) qc hqc rfl rfl jw_9c28fd2e32 jw_193b10eb43 jw_69bbe80566 jw_f96c99f44d jw_a520512e18 jn_X11_fails rfl (jj_le rfl) (jj_le rfl) (jj_le rfl) (jj_le rfl) (jj_le rfl) dX11_request_27 rfl (fun _ _ _ hX => hX.elim) (fun rx pl_22 r O_26 => ?_)
      obtain ⟨rfl, hok_23, hr_24, ha_25, hR_27⟩ := O_26
      replace hC := ha_25.at hkw (by decide) (by decide) hC
      replace hm := hm.fr hr_24 hk0 rfl
      replace hfr := hfr.trans (hr_24.sub (by decide))
      replace hfa := hfa.trans (ha_25.sub (by decide))
      obtain rfl := hR_27
      refine jj_if_eqF (tgt := 37) C dX11_request_30 (by decide) (by decide) ?_
      refine jj_lconst (v := 0) C dX11_request_33 (by decide) ?_
      refine jj_goto (tgt := 48) C dX11_request_34 (by decide) ?_
      exact jj_lret C ⟨[], pl_22, rfl, rfl, hok_23, hfr, hfa, (Or.inl rfl)⟩ dX11_request_48 (jj_le rfl) (jj_le rfl)
    · have z_c_14 := jc_nltL (a := y_9.toInt) (b := 0) c_14 rfl (by decide)
      have z_c_15 := jc_nltL (a := 3) (b := y_9.toInt) c_15 (by decide) rfl
      refine jj_if_neT (tgt := 25) C dX11_request_18 (by decide) (by decide) ?_
      refine jj_iconst (v := 0) C dX11_request_25 (by decide) ?_
      refine jj_iconst (v := 2) C dX11_request_26 (by decide) ?_
      obtain ⟨qc, gs, hqc⟩ := tt_recv (cx := []) hok_2 hk0 (by decide) rfl
      refine tt_callV (rest := []) C (rc_X11_fails_a6808a hl D cA ak hk0 hkw hka hkt hki hkf hkp hok_2 hm) [] [] rfl rfl (by decide) (by decide) (by decide) qc hqc rfl rfl jw_9c28fd2e32 jw_193b10eb43 jw_69bbe80566 jw_f96c99f44d jw_a520512e18 jn_X11_fails rfl (jj_le rfl) (jj_le rfl) (jj_le rfl) (jj_le rfl) (jj_le rfl) dX11_request_27 rfl (fun _ _ _ hX => hX.elim) (fun rx pl_28 r O_32 => ?_)
      obtain ⟨rfl, hok_29, hr_30, ha_31, hR_33⟩ := O_32
      replace hC := ha_31.at hkw (by decide) (by decide) hC
      replace hm := hm.fr hr_30 hk0 rfl
      replace hfr := hfr.trans (hr_30.sub (by decide))
      replace hfa := hfa.trans (ha_31.sub (by decide))
      obtain rfl := hR_33
      refine jj_if_eqT (tgt := 37) C dX11_request_30 (by decide) (by decide) ?_
      refine jj_aload_n C dX11_request_37 rfl ?_
      refine tt_getF C hok_29 jk_12 0 (by decide) jw_34eaf3ba8b (t := (2, 2, 0)) hk0 (by decide) rfl rfl hm.1 dX11_request_38 ?_
      refine jj_iload_n C dX11_request_41 rfl ?_
      obtain ⟨n_34, rfl, bn_34⟩ := rl_nat (x := p1) (by omega)
      have vn_34 := rl_ti bn_34
      refine tt_call0S (rest := [.ref aw]) C (rn_requestAt hl D cA ak n_34 (286 + 4 * n_34) (by omega)) jw_b399766b1e jw_c583cc9526 jw_f96c99f44d jw_595411e0f2 jn_X11_requestAt rfl (jj_le rfl) (jj_le rfl) (jj_le rfl) (jj_le rfl) (jj_le rfl) dX11_request_42 rfl (fun w1 r hO => ?_)
      obtain ⟨-, rfl⟩ := hO
      refine jj_iload_n C dX11_request_45 rfl ?_
      obtain ⟨n_35, rfl, bn_35⟩ := rl_nat (x := p2) (by omega)
      have vn_35 := rl_ti bn_35
      refine jj_iadd (v := nI (286 + 4 * n_34 + n_35)) C dX11_request_46 (rl_add (by omega)) ?_
      refine rl_lald C hok_29 (t := (1, (-9223372036854775808), 9223372036854775807)) hkw (by decide) rfl (k := 286 + 4 * n_34 + n_35) (v := (f (286 + 4 * n_34 + n_35))) (vp_in_nI (by omega) (by decide)) hC (nI_clamp (by omega)) rfl dX11_request_47 ?_
      exact jj_lret C ⟨[], pl_28, rfl, rfl, hok_29, hfr, hfa, (Or.inr ⟨(f (286 + 4 * n_34 + n_35)), (by first | omega | exact tt_lo _ | exact tt_hi _), (by first | omega | exact tt_lo _ | exact tt_hi _), (by first | omega | exact tt_lo _ | exact tt_hi _), (by first | omega | exact tt_lo _ | exact tt_hi _), rfl⟩)⟩ dX11_request_48 (jj_le rfl) (jj_le rfl)

set_option maxHeartbeats 4000000 in
set_option maxRecDepth 100000 in
theorem rc_X11_unitsBy_d203db {l : Launch} (hl : l.stackTraces = false) (D : va_G) (cA : Nat → ClassId) (ak : (Nat → Nat) × (Nat → Nat)) {Kd : Nat → Nat} {h0 aw aa at0 ai af ap : Nat} (p1 : Int32) (f : Nat → Int64) (hk0 : Kd h0 = 1) (hkw : Kd aw = 2) (hka : Kd aa = 3) (hkt : Kd at0 = 4) (hki : Kd ai = 5) (hkf : Kd af = 6) (hkp : Kd ap = 7) (lp1 : (0 : Int) ≤ p1.toInt) (up1 : p1.toInt ≤ 5) (hH : rl_h f) {pl0 : va_W} (hok : tt_ok rt_tk cA Kd pl0) (hm : rl_m pl0 h0 aw aa at0 ai af ap) (hC : tt_lc pl0 aw f) : jj_M l D cA ak yX11_unitsBy (.code yX11_unitsBy cX11_unitsBy 5 (some .long)) 1 20 0 0 ([] ++ pl0) [.ref h0, .int p1] (tt_O (fun rx pl1 r => rx = [] ∧ tt_ok rt_tk cA Kd pl1 ∧ tt_fr Kd [] pl0 pl1 ∧ tt_fa Kd [] pl0 pl1 ∧ ((∃ v : Int64, r = some (.long v))))) (tt_OX (fun _ _ _ => False)) := by
  refine jj_start hl (by decide) jw_6f23c3bc30 (jj_le rfl) ?_
  intro p e s m args below meth c A hargs hA C hex hmn
  have hfr := tt_fr.refl (K := Kd) (WS := []) pl0
  have hfa := tt_fa.refl (K := Kd) (WA := []) pl0
  obtain ⟨⟨g0a, g0b⟩, ⟨g1a, g1b⟩, ⟨g6a, g6b⟩, ⟨g7a, g7b⟩, ⟨g8a, g8b⟩⟩ := hH
  refine jj_lconst (v := 0) C dX11_unitsBy_0 (by decide) ?_
  refine jj_lstore_n C dX11_unitsBy_1 (by decide) rfl ?_
  refine jj_iconst (v := 0) C dX11_unitsBy_2 (by decide) ?_
  refine jj_istore C dX11_unitsBy_3 (by decide) rfl ?_
  have hL_1 : ∀ (N : Nat) (pl : va_W) (k_2 : Nat) (y_3 : Int64), True → tt_ok rt_tk cA Kd pl → tt_fr Kd [] pl0 pl → tt_fa Kd [] pl0 pl → rl_m pl h0 aw aa at0 ai af ap → tt_lc pl aw f → (0 : Int) ≤ (k_2 : Int) → (k_2 : Int) ≤ 40 → (2147483648 - (k_2 : Int) ≤ (N : Int)) → jj_J p l e (jj_rm 1 20 0 0) s m args below meth c 5 A (vx_MQ below (jj_q D A (tt_O (fun rx pl1 r => rx = [] ∧ tt_ok rt_tk cA Kd pl1 ∧ tt_fr Kd [] pl0 pl1 ∧ tt_fa Kd [] pl0 pl1 ∧ ((∃ v : Int64, r = some (.long v)))))) (jj_x D A (tt_OX (fun _ _ _ => False))) args s 0 0 A) (jj_X D A ([] ++ pl)) 0 0 5 [(4, .int (nI k_2)), (2, .long y_3), (0, .ref h0), (1, .int p1)] [] := by
    intro NL_1
    induction NL_1 with
    | zero => intro pl k_2 y_3 _ hok hfr hfa hm hC lk_2 uk_2 hNL_1; exfalso; omega
    | succ NL_1 ihL_1 =>
      intro pl k_2 y_3 _ hok hfr hfa hm hC lk_2 uk_2 hNL_1
      replace ihL_1 := fun pl k_2 y_3 h1 => ihL_1 pl k_2 y_3 trivial h1
      refine jj_iload C dX11_unitsBy_5 rfl ?_
      refine jj_i2l C dX11_unitsBy_7 rfl ?_
      refine jj_aload_n C dX11_unitsBy_8 rfl ?_
      refine tt_getF C hok jk_12 0 (by decide) jw_34eaf3ba8b (t := (2, 2, 0)) hk0 (by decide) rfl rfl hm.1 dX11_unitsBy_9 ?_
      refine jj_bipush (v := 7) C dX11_unitsBy_12 (by decide) ?_
      refine rl_lald C hok (t := (1, (-9223372036854775808), 9223372036854775807)) hkw (by decide) rfl (k := 7) (v := (f 7)) (vp_in_iff.mpr (by decide)) hC (by decide) rfl dX11_unitsBy_14 ?_
      refine jj_lcmp_ge (tgt := 58) C dX11_unitsBy_15 dX11_unitsBy_16 (by decide) (fun c_4 => ?_) (fun c_4 => ?_)
      · have z_c_4 := jc_leL (a := (f 7).toInt) (b := ((k_2 : Nat) : Int)) c_4 rfl (rl_tl (by omega))
        refine jj_lload_n C dX11_unitsBy_58 rfl ?_
        exact jj_lret C ⟨[], pl, rfl, rfl, hok, hfr, hfa, ⟨y_3, rfl⟩⟩ dX11_unitsBy_59 (jj_le rfl) (jj_le rfl)
      · have z_c_4 := jc_nleL (a := (f 7).toInt) (b := ((k_2 : Nat) : Int)) c_4 rfl (rl_tl (by omega))
        refine jj_aload_n C dX11_unitsBy_19 rfl ?_
        refine tt_getF C hok jk_12 0 (by decide) jw_34eaf3ba8b (t := (2, 2, 0)) hk0 (by decide) rfl rfl hm.1 dX11_unitsBy_20 ?_
        refine jj_iload C dX11_unitsBy_23 rfl ?_
        refine tt_call0S (rest := [.ref aw]) C (rn_lotAt hl D cA ak k_2 (46 + 6 * k_2) (by omega)) jw_4c8c4b88e2 jw_0fa3e2bccb jw_f96c99f44d jw_d540d98a1c jn_X11_lotAt rfl (jj_le rfl) (jj_le rfl) (jj_le rfl) (jj_le rfl) (jj_le rfl) dX11_unitsBy_25 rfl (fun w1 r hO => ?_)
        obtain ⟨-, rfl⟩ := hO
        refine jj_iconst (v := 0) C dX11_unitsBy_28 (by decide) ?_
        refine jj_iadd (v := nI (46 + 6 * k_2)) C dX11_unitsBy_29 (rl_addR (kn := 0) (by decide) (by omega)) ?_
        refine rl_lald C hok (t := (1, (-9223372036854775808), 9223372036854775807)) hkw (by decide) rfl (k := 46 + 6 * k_2) (v := (f (46 + 6 * k_2))) (vp_in_nI (by omega) (by decide)) hC (nI_clamp (by omega)) rfl dX11_unitsBy_30 ?_
        refine jj_iload_n C dX11_unitsBy_31 rfl ?_
        obtain ⟨y_5, ey_5, vy_5⟩ := tt_i2l p1
        refine jj_i2l (v := y_5) C dX11_unitsBy_32 ey_5 ?_
        refine jj_lcmp_ne (tgt := 52) C dX11_unitsBy_33 dX11_unitsBy_34 (by decide) (fun c_6 => ?_) (fun c_6 => ?_)
        · have z_c_6 := jc_neqL (a := (f (46 + 6 * k_2)).toInt) (b := y_5.toInt) c_6 rfl rfl
          refine jj_iinc (v := nI (1 + k_2)) C dX11_unitsBy_52 rfl (rl_addR (kn := 1) (by decide) (by omega)) (by decide) rfl ?_
          refine jj_goto (tgt := 5) C dX11_unitsBy_55 (by decide) ?_
          exact ihL_1 pl (1 + k_2) y_3 hok hfr hfa hm hC (by first | omega | decide | exact tt_lo _ | exact tt_hi _) (by first | omega | decide | exact tt_lo _ | exact tt_hi _) (by first | omega | decide | exact tt_lo _ | exact tt_hi _)
        · have z_c_6 := jc_eqL (a := (f (46 + 6 * k_2)).toInt) (b := y_5.toInt) c_6 rfl rfl
          refine jj_lload_n C dX11_unitsBy_37 rfl ?_
          refine jj_aload_n C dX11_unitsBy_38 rfl ?_
          refine tt_getF C hok jk_12 0 (by decide) jw_34eaf3ba8b (t := (2, 2, 0)) hk0 (by decide) rfl rfl hm.1 dX11_unitsBy_39 ?_
          refine jj_iload C dX11_unitsBy_42 rfl ?_
          refine tt_call0S (rest := [.ref aw, .long y_3]) C (rn_lotAt hl D cA ak k_2 (46 + 6 * k_2) (by omega)) jw_4c8c4b88e2 jw_0fa3e2bccb jw_f96c99f44d jw_d540d98a1c jn_X11_lotAt rfl (jj_le rfl) (jj_le rfl) (jj_le rfl) (jj_le rfl) (jj_le rfl) dX11_unitsBy_44 rfl (fun w1 r hO => ?_)
          obtain ⟨-, rfl⟩ := hO
          refine jj_iconst (v := 2) C dX11_unitsBy_47 (by decide) ?_
          refine jj_iadd (v := nI (48 + 6 * k_2)) C dX11_unitsBy_48 (rl_addR (kn := 2) (by decide) (by omega)) ?_
          refine rl_lald C hok (t := (1, (-9223372036854775808), 9223372036854775807)) hkw (by decide) rfl (k := 48 + 6 * k_2) (v := (f (48 + 6 * k_2))) (vp_in_nI (by omega) (by decide)) hC (nI_clamp (by omega)) rfl dX11_unitsBy_49 ?_
          obtain ⟨y_7, ey_7⟩ : ∃ z : Int64, y_3 + (f (48 + 6 * k_2)) = z := ⟨_, rfl⟩
          refine jj_ladd (v := y_7) C dX11_unitsBy_50 ey_7 ?_
          refine jj_lstore_n C dX11_unitsBy_51 (by decide) rfl ?_
          refine jj_iinc (v := nI (1 + k_2)) C dX11_unitsBy_52 rfl (rl_addR (kn := 1) (by decide) (by omega)) (by decide) rfl ?_
          refine jj_goto (tgt := 5) C dX11_unitsBy_55 (by decide) ?_
          exact ihL_1 pl (1 + k_2) y_7 hok hfr hfa hm hC (by first | omega | decide | exact tt_lo _ | exact tt_hi _) (by first | omega | decide | exact tt_lo _ | exact tt_hi _) (by first | omega | decide | exact tt_lo _ | exact tt_hi _)
  exact hL_1 _ pl0 0 (0 : Int64) trivial hok hfr hfa hm hC (by first | omega | decide | exact tt_lo _ | exact tt_hi _) (by first | omega | decide | exact tt_lo _ | exact tt_hi _) (Int.self_le_toNat _)

set_option maxHeartbeats 4000000 in
set_option maxRecDepth 100000 in
theorem rc_X11_unitsOf_d8d95c {l : Launch} (hl : l.stackTraces = false) (D : va_G) (cA : Nat → ClassId) (ak : (Nat → Nat) × (Nat → Nat)) {Kd : Nat → Nat} {h0 aw aa at0 ai af ap : Nat} (p1 : Int32) (f : Nat → Int64) (hk0 : Kd h0 = 1) (hkw : Kd aw = 2) (hka : Kd aa = 3) (hkt : Kd at0 = 4) (hki : Kd ai = 5) (hkf : Kd af = 6) (hkp : Kd ap = 7) (hH : rl_h f) {pl0 : va_W} (hok : tt_ok rt_tk cA Kd pl0) (hm : rl_m pl0 h0 aw aa at0 ai af ap) (hC : tt_lc pl0 aw f) : jj_M l D cA ak yX11_unitsOf (.code yX11_unitsOf cX11_unitsOf 2 (some .long)) 3 67 0 0 ([] ++ pl0) [.ref h0, .int p1] (tt_O (fun rx pl1 r => rx = [] ∧ tt_ok rt_tk cA Kd pl1 ∧ tt_fr Kd [(1, 7)] pl0 pl1 ∧ tt_fa Kd [] pl0 pl1 ∧ ((r = some (.long 0)) ∨ (∃ v : Int64, (0 : Int) ≤ p1.toInt ∧ p1.toInt ≤ 5 ∧ r = some (.long v))))) (tt_OX (fun _ _ _ => False)) := by
  refine jj_start hl (by decide) jw_5d965a8869 (jj_le rfl) ?_
  intro p e s m args below meth c A hargs hA C hex hmn
  have hfr := tt_fr.refl (K := Kd) (WS := [(1, 7)]) pl0
  have hfa := tt_fa.refl (K := Kd) (WA := []) pl0
  have lp1 := tt_lo p1
  have up1 := tt_hi p1
  obtain ⟨⟨g0a, g0b⟩, ⟨g1a, g1b⟩, ⟨g6a, g6b⟩, ⟨g7a, g7b⟩, ⟨g8a, g8b⟩⟩ := hH
  refine jj_aload_n C dX11_unitsOf_0 rfl ?_
  refine jj_iload_n C dX11_unitsOf_1 rfl ?_
  obtain ⟨qc, gs, hqc⟩ := tt_recv (cx := []) hok hk0 (by decide) rfl
  refine tt_callV (rest := []) C (rc_X11_isNoInvestor_d8d95c hl D cA ak p1 _ hk0 hkw hka hkt hki hkf hkp ⟨⟨g0a, g0b⟩, ⟨g1a, g1b⟩, ⟨g6a, g6b⟩, ⟨g7a, g7b⟩, ⟨g8a, g8b⟩⟩ hok hm hC) [] [] rfl rfl (by decide) (by decide) (by decide) qc hqc rfl rfl jw_daecd531da jw_4e28b3e206 jw_f3a40b16e4 jw_f96c99f44d jw_78c857bdda jn_X11_isNoInvestor rfl (jj_le rfl) (jj_le rfl) (jj_le rfl) (jj_le rfl) (jj_le rfl) dX11_unitsOf_2 rfl (fun _ _ _ hX => hX.elim) (fun rx pl_1 r O_5 => ?_)
  obtain ⟨rfl, hok_2, hr_3, ha_4, hR_6⟩ := O_5
  replace hC := ha_4.at hkw (by decide) (by decide) hC
  replace hm := hm.fr hr_3 hk0 rfl
  replace hfr := hfr.trans (hr_3.sub (by decide))
  replace hfa := hfa.trans (ha_4.sub (by decide))
  rcases hR_6 with rfl | ⟨l_7, u_8, rfl⟩
  · refine jj_if_eqF (tgt := 12) C dX11_unitsOf_5 (by decide) (by decide) ?_
    refine jj_lconst (v := 0) C dX11_unitsOf_8 (by decide) ?_
    refine jj_goto (tgt := 17) C dX11_unitsOf_9 (by decide) ?_
    exact jj_lret C ⟨[], pl_1, rfl, rfl, hok_2, hfr, hfa, (Or.inl rfl)⟩ dX11_unitsOf_17 (jj_le rfl) (jj_le rfl)
  · refine jj_if_eqT (tgt := 12) C dX11_unitsOf_5 (by decide) (by decide) ?_
    refine jj_aload_n C dX11_unitsOf_12 rfl ?_
    refine jj_iload_n C dX11_unitsOf_13 rfl ?_
    obtain ⟨qc, gs, hqc⟩ := tt_recv (cx := []) hok_2 hk0 (by decide) rfl
    refine tt_callV (rest := []) C (rc_X11_unitsBy_d203db hl D cA ak p1 _ hk0 hkw hka hkt hki hkf hkp (by omega) (by omega) ⟨⟨g0a, g0b⟩, ⟨g1a, g1b⟩, ⟨g6a, g6b⟩, ⟨g7a, g7b⟩, ⟨g8a, g8b⟩⟩ hok_2 hm hC) [] [] rfl rfl (by decide) (by decide) (by decide) qc hqc rfl rfl jw_d258851c0a jw_53672f19d9 jw_faff4a546a jw_f96c99f44d jw_6f23c3bc30 jn_X11_unitsBy rfl (jj_le rfl) (jj_le rfl) (jj_le rfl) (jj_le rfl) (jj_le rfl) dX11_unitsOf_14 rfl (fun _ _ _ hX => hX.elim) (fun rx pl_9 r O_13 => ?_)
    obtain ⟨rfl, hok_10, hr_11, ha_12, hR_14⟩ := O_13
    replace hC := ha_12.at hkw (by decide) (by decide) hC
    replace hm := hm.fr hr_11 hk0 rfl
    replace hfr := hfr.trans (hr_11.sub (by decide))
    replace hfa := hfa.trans (ha_12.sub (by decide))
    obtain ⟨y_15, rfl⟩ := hR_14
    exact jj_lret C ⟨[], pl_9, rfl, rfl, hok_10, hfr, hfa, (Or.inr ⟨y_15, (by first | omega | exact tt_lo _ | exact tt_hi _), (by first | omega | exact tt_lo _ | exact tt_hi _), rfl⟩)⟩ dX11_unitsOf_17 (jj_le rfl) (jj_le rfl)

set_option maxHeartbeats 4000000 in
set_option maxRecDepth 100000 in
theorem rc_X11_heldIn_886b3e {l : Launch} (hl : l.stackTraces = false) (D : va_G) (cA : Nat → ClassId) (ak : (Nat → Nat) × (Nat → Nat)) {Kd : Nat → Nat} {h0 aw aa at0 ai af ap : Nat} (p1 : Int32) (p2 : Int64) (f : Nat → Int64) (hk0 : Kd h0 = 1) (hkw : Kd aw = 2) (hka : Kd aa = 3) (hkt : Kd at0 = 4) (hki : Kd ai = 5) (hkf : Kd af = 6) (hkp : Kd ap = 7) (lp1 : (0 : Int) ≤ p1.toInt) (up1 : p1.toInt ≤ 5) (hH : rl_h f) {pl0 : va_W} (hok : tt_ok rt_tk cA Kd pl0) (hm : rl_m pl0 h0 aw aa at0 ai af ap) (hC : tt_lc pl0 aw f) : jj_M l D cA ak yX11_heldIn (.code yX11_heldIn cX11_heldIn 8 (some .long)) 1 20 0 0 ([] ++ pl0) [.ref h0, .int p1, .long p2] (tt_O (fun rx pl1 r => rx = [] ∧ tt_ok rt_tk cA Kd pl1 ∧ tt_fr Kd [] pl0 pl1 ∧ tt_fa Kd [] pl0 pl1 ∧ ((∃ v : Int64, r = some (.long v))))) (tt_OX (fun _ _ _ => False)) := by
  refine jj_start hl (by decide) jw_f6a1ea64f5 (jj_le rfl) ?_
  intro p e s m args below meth c A hargs hA C hex hmn
  have hfr := tt_fr.refl (K := Kd) (WS := []) pl0
  have hfa := tt_fa.refl (K := Kd) (WA := []) pl0
  obtain ⟨⟨g0a, g0b⟩, ⟨g1a, g1b⟩, ⟨g6a, g6b⟩, ⟨g7a, g7b⟩, ⟨g8a, g8b⟩⟩ := hH
  refine jj_lconst (v := 0) C dX11_heldIn_0 (by decide) ?_
  refine jj_lstore C dX11_heldIn_1 (by decide) rfl ?_
  refine jj_iconst (v := 0) C dX11_heldIn_3 (by decide) ?_
  refine jj_istore C dX11_heldIn_4 (by decide) rfl ?_
  have hL_1 : ∀ (N : Nat) (pl : va_W) (k_2 : Nat) (y_3 : Int64), True → tt_ok rt_tk cA Kd pl → tt_fr Kd [] pl0 pl → tt_fa Kd [] pl0 pl → rl_m pl h0 aw aa at0 ai af ap → tt_lc pl aw f → (0 : Int) ≤ (k_2 : Int) → (k_2 : Int) ≤ 40 → (2147483648 - (k_2 : Int) ≤ (N : Int)) → jj_J p l e (jj_rm 1 20 0 0) s m args below meth c 8 A (vx_MQ below (jj_q D A (tt_O (fun rx pl1 r => rx = [] ∧ tt_ok rt_tk cA Kd pl1 ∧ tt_fr Kd [] pl0 pl1 ∧ tt_fa Kd [] pl0 pl1 ∧ ((∃ v : Int64, r = some (.long v)))))) (jj_x D A (tt_OX (fun _ _ _ => False))) args s 0 0 A) (jj_X D A ([] ++ pl)) 0 0 6 [(6, .int (nI k_2)), (4, .long y_3), (0, .ref h0), (1, .int p1), (2, .long p2)] [] := by
    intro NL_1
    induction NL_1 with
    | zero => intro pl k_2 y_3 _ hok hfr hfa hm hC lk_2 uk_2 hNL_1; exfalso; omega
    | succ NL_1 ihL_1 =>
      intro pl k_2 y_3 _ hok hfr hfa hm hC lk_2 uk_2 hNL_1
      replace ihL_1 := fun pl k_2 y_3 h1 => ihL_1 pl k_2 y_3 trivial h1
      refine jj_iload C dX11_heldIn_6 rfl ?_
      refine jj_i2l C dX11_heldIn_8 rfl ?_
      refine jj_aload_n C dX11_heldIn_9 rfl ?_
      refine tt_getF C hok jk_12 0 (by decide) jw_34eaf3ba8b (t := (2, 2, 0)) hk0 (by decide) rfl rfl hm.1 dX11_heldIn_10 ?_
      refine jj_bipush (v := 7) C dX11_heldIn_13 (by decide) ?_
      refine rl_lald C hok (t := (1, (-9223372036854775808), 9223372036854775807)) hkw (by decide) rfl (k := 7) (v := (f 7)) (vp_in_iff.mpr (by decide)) hC (by decide) rfl dX11_heldIn_15 ?_
      refine jj_lcmp_ge (tgt := 80) C dX11_heldIn_16 dX11_heldIn_17 (by decide) (fun c_4 => ?_) (fun c_4 => ?_)
      · have z_c_4 := jc_leL (a := (f 7).toInt) (b := ((k_2 : Nat) : Int)) c_4 rfl (rl_tl (by omega))
        refine jj_lload C dX11_heldIn_80 rfl ?_
        exact jj_lret C ⟨[], pl, rfl, rfl, hok, hfr, hfa, ⟨y_3, rfl⟩⟩ dX11_heldIn_82 (jj_le rfl) (jj_le rfl)
      · have z_c_4 := jc_nleL (a := (f 7).toInt) (b := ((k_2 : Nat) : Int)) c_4 rfl (rl_tl (by omega))
        refine jj_iload C dX11_heldIn_20 rfl ?_
        refine tt_call0S (rest := []) C (rn_lotAt hl D cA ak k_2 (46 + 6 * k_2) (by omega)) jw_4c8c4b88e2 jw_0fa3e2bccb jw_f96c99f44d jw_d540d98a1c jn_X11_lotAt rfl (jj_le rfl) (jj_le rfl) (jj_le rfl) (jj_le rfl) (jj_le rfl) dX11_heldIn_22 rfl (fun w1 r hO => ?_)
        obtain ⟨-, rfl⟩ := hO
        refine jj_istore C dX11_heldIn_25 (by decide) rfl ?_
        refine jj_lload C dX11_heldIn_27 rfl ?_
        refine jj_aload_n C dX11_heldIn_29 rfl ?_
        refine tt_getF C hok jk_12 0 (by decide) jw_34eaf3ba8b (t := (2, 2, 0)) hk0 (by decide) rfl rfl hm.1 dX11_heldIn_30 ?_
        refine jj_iload C dX11_heldIn_33 rfl ?_
        refine jj_iconst (v := 0) C dX11_heldIn_35 (by decide) ?_
        refine jj_iadd (v := nI (46 + 6 * k_2)) C dX11_heldIn_36 (rl_addR (kn := 0) (by decide) (by omega)) ?_
        refine rl_lald C hok (t := (1, (-9223372036854775808), 9223372036854775807)) hkw (by decide) rfl (k := 46 + 6 * k_2) (v := (f (46 + 6 * k_2))) (vp_in_nI (by omega) (by decide)) hC (nI_clamp (by omega)) rfl dX11_heldIn_37 ?_
        refine jj_iload_n C dX11_heldIn_38 rfl ?_
        obtain ⟨y_5, ey_5, vy_5⟩ := tt_i2l p1
        refine jj_i2l (v := y_5) C dX11_heldIn_39 ey_5 ?_
        refine jj_lcmp_ne (tgt := 70) C dX11_heldIn_40 dX11_heldIn_41 (by decide) (fun c_6 => ?_) (fun c_6 => ?_)
        · have z_c_6 := jc_neqL (a := (f (46 + 6 * k_2)).toInt) (b := y_5.toInt) c_6 rfl rfl
          refine jj_lconst (v := 0) C dX11_heldIn_70 (by decide) ?_
          obtain ⟨y_7, ey_7⟩ : ∃ z : Int64, y_3 + (0 : Int64) = z := ⟨_, rfl⟩
          refine jj_ladd (v := y_7) C dX11_heldIn_71 ey_7 ?_
          refine jj_lstore C dX11_heldIn_72 (by decide) rfl ?_
          refine jj_iinc (v := nI (1 + k_2)) C dX11_heldIn_74 rfl (rl_addR (kn := 1) (by decide) (by omega)) (by decide) rfl ?_
          refine jj_goto (tgt := 6) C dX11_heldIn_77 (by decide) ?_
          refine jj_loc [0, 1, 3, 4, 5] rfl ?_
          exact ihL_1 pl (1 + k_2) y_7 hok hfr hfa hm hC (by first | omega | decide | exact tt_lo _ | exact tt_hi _) (by first | omega | decide | exact tt_lo _ | exact tt_hi _) (by first | omega | decide | exact tt_lo _ | exact tt_hi _)
        · have z_c_6 := jc_eqL (a := (f (46 + 6 * k_2)).toInt) (b := y_5.toInt) c_6 rfl rfl
          refine jj_aload_n C dX11_heldIn_44 rfl ?_
          refine tt_getF C hok jk_12 0 (by decide) jw_34eaf3ba8b (t := (2, 2, 0)) hk0 (by decide) rfl rfl hm.1 dX11_heldIn_45 ?_
          refine jj_iload C dX11_heldIn_48 rfl ?_
          refine jj_iconst (v := 1) C dX11_heldIn_50 (by decide) ?_
          refine jj_iadd (v := nI (47 + 6 * k_2)) C dX11_heldIn_51 (rl_addR (kn := 1) (by decide) (by omega)) ?_
          refine rl_lald C hok (t := (1, (-9223372036854775808), 9223372036854775807)) hkw (by decide) rfl (k := 47 + 6 * k_2) (v := (f (47 + 6 * k_2))) (vp_in_nI (by omega) (by decide)) hC (nI_clamp (by omega)) rfl dX11_heldIn_52 ?_
          refine jj_lload_n C dX11_heldIn_53 rfl ?_
          refine jj_lcmp_ne (tgt := 70) C dX11_heldIn_54 dX11_heldIn_55 (by decide) (fun c_8 => ?_) (fun c_8 => ?_)
          · have z_c_8 := jc_neqL (a := (f (47 + 6 * k_2)).toInt) (b := p2.toInt) c_8 rfl rfl
            refine jj_lconst (v := 0) C dX11_heldIn_70 (by decide) ?_
            obtain ⟨y_9, ey_9⟩ : ∃ z : Int64, y_3 + (0 : Int64) = z := ⟨_, rfl⟩
            refine jj_ladd (v := y_9) C dX11_heldIn_71 ey_9 ?_
            refine jj_lstore C dX11_heldIn_72 (by decide) rfl ?_
            refine jj_iinc (v := nI (1 + k_2)) C dX11_heldIn_74 rfl (rl_addR (kn := 1) (by decide) (by omega)) (by decide) rfl ?_
            refine jj_goto (tgt := 6) C dX11_heldIn_77 (by decide) ?_
            refine jj_loc [0, 1, 3, 4, 5] rfl ?_
            exact ihL_1 pl (1 + k_2) y_9 hok hfr hfa hm hC (by first | omega | decide | exact tt_lo _ | exact tt_hi _) (by first | omega | decide | exact tt_lo _ | exact tt_hi _) (by first | omega | decide | exact tt_lo _ | exact tt_hi _)
          · have z_c_8 := jc_eqL (a := (f (47 + 6 * k_2)).toInt) (b := p2.toInt) c_8 rfl rfl
            refine jj_aload_n C dX11_heldIn_58 rfl ?_
            refine tt_getF C hok jk_12 0 (by decide) jw_34eaf3ba8b (t := (2, 2, 0)) hk0 (by decide) rfl rfl hm.1 dX11_heldIn_59 ?_
            refine jj_iload C dX11_heldIn_62 rfl ?_
            refine jj_iconst (v := 2) C dX11_heldIn_64 (by decide) ?_
            refine jj_iadd (v := nI (48 + 6 * k_2)) C dX11_heldIn_65 (rl_addR (kn := 2) (by decide) (by omega)) ?_
            refine rl_lald C hok (t := (1, (-9223372036854775808), 9223372036854775807)) hkw (by decide) rfl (k := 48 + 6 * k_2) (v := (f (48 + 6 * k_2))) (vp_in_nI (by omega) (by decide)) hC (nI_clamp (by omega)) rfl dX11_heldIn_66 ?_
            refine jj_goto (tgt := 71) C dX11_heldIn_67 (by decide) ?_
            obtain ⟨y_10, ey_10⟩ : ∃ z : Int64, y_3 + (f (48 + 6 * k_2)) = z := ⟨_, rfl⟩
            refine jj_ladd (v := y_10) C dX11_heldIn_71 ey_10 ?_
            refine jj_lstore C dX11_heldIn_72 (by decide) rfl ?_
            refine jj_iinc (v := nI (1 + k_2)) C dX11_heldIn_74 rfl (rl_addR (kn := 1) (by decide) (by omega)) (by decide) rfl ?_
            refine jj_goto (tgt := 6) C dX11_heldIn_77 (by decide) ?_
            refine jj_loc [0, 1, 3, 4, 5] rfl ?_
            exact ihL_1 pl (1 + k_2) y_10 hok hfr hfa hm hC (by first | omega | decide | exact tt_lo _ | exact tt_hi _) (by first | omega | decide | exact tt_lo _ | exact tt_hi _) (by first | omega | decide | exact tt_lo _ | exact tt_hi _)
  exact hL_1 _ pl0 0 (0 : Int64) trivial hok hfr hfa hm hC (by first | omega | decide | exact tt_lo _ | exact tt_hi _) (by first | omega | decide | exact tt_lo _ | exact tt_hi _) (Int.self_le_toNat _)

set_option maxHeartbeats 4000000 in
set_option maxRecDepth 100000 in
theorem rc_X11_holding_bd5ac9 {l : Launch} (hl : l.stackTraces = false) (D : va_G) (cA : Nat → ClassId) (ak : (Nat → Nat) × (Nat → Nat)) {Kd : Nat → Nat} {h0 aw aa at0 ai af ap : Nat} (p1 : Int32) (p2 : Int32) (f : Nat → Int64) (hk0 : Kd h0 = 1) (hkw : Kd aw = 2) (hka : Kd aa = 3) (hkt : Kd at0 = 4) (hki : Kd ai = 5) (hkf : Kd af = 6) (hkp : Kd ap = 7) (hH : rl_h f) {pl0 : va_W} (hok : tt_ok rt_tk cA Kd pl0) (hm : rl_m pl0 h0 aw aa at0 ai af ap) (hC : tt_lc pl0 aw f) : jj_M l D cA ak yX11_holding (.code yX11_holding cX11_holding 3 (some .long)) 2 47 0 0 ([] ++ pl0) [.ref h0, .int p1, .int p2] (tt_O (fun rx pl1 r => rx = [] ∧ tt_ok rt_tk cA Kd pl1 ∧ tt_fr Kd [(1, 7)] pl0 pl1 ∧ tt_fa Kd [] pl0 pl1 ∧ ((r = some (.long 0)) ∨ (∃ v : Int64, (0 : Int) ≤ p1.toInt ∧ p1.toInt ≤ 5 ∧ r = some (.long v))))) (tt_OX (fun _ _ _ => False)) := by
  refine jj_start hl (by decide) jw_34d9bcb912 (jj_le rfl) ?_
  intro p e s m args below meth c A hargs hA C hex hmn
  have hfr := tt_fr.refl (K := Kd) (WS := [(1, 7)]) pl0
  have hfa := tt_fa.refl (K := Kd) (WA := []) pl0
  have lp1 := tt_lo p1
  have up1 := tt_hi p1
  have lp2 := tt_lo p2
  have up2 := tt_hi p2
  obtain ⟨⟨g0a, g0b⟩, ⟨g1a, g1b⟩, ⟨g6a, g6b⟩, ⟨g7a, g7b⟩, ⟨g8a, g8b⟩⟩ := hH
  refine jj_aload_n C dX11_holding_0 rfl ?_
  refine jj_aload_n C dX11_holding_1 rfl ?_
  refine jj_iload_n C dX11_holding_2 rfl ?_
  obtain ⟨qc, gs, hqc⟩ := tt_recv (cx := []) hok hk0 (by decide) rfl
  refine tt_callV (rest := [.ref h0]) C (rc_X11_isInvestor_d8d95c hl D cA ak p1 _ hk0 hkw hka hkt hki hkf hkp ⟨⟨g0a, g0b⟩, ⟨g1a, g1b⟩, ⟨g6a, g6b⟩, ⟨g7a, g7b⟩, ⟨g8a, g8b⟩⟩ hok hm hC) [] [] rfl rfl (by decide) (by decide) (by decide) qc hqc rfl rfl jw_7ef37939ff jw_26aeef849b jw_c47596b272 jw_f96c99f44d jw_eb28ea56ae jn_X11_isInvestor rfl (jj_le rfl) (jj_le rfl) (jj_le rfl) (jj_le rfl) (jj_le rfl) dX11_holding_3 rfl (fun _ _ _ hX => hX.elim) (fun rx pl_1 r O_5 => ?_)
  obtain ⟨rfl, hok_2, hr_3, ha_4, hR_6⟩ := O_5
  replace hC := ha_4.at hkw (by decide) (by decide) hC
  replace hm := hm.fr hr_3 hk0 rfl
  replace hfr := hfr.trans (hr_3.sub (by decide))
  replace hfa := hfa.trans (ha_4.sub (by decide))
  rcases hR_6 with rfl | ⟨l_7, u_8, rfl⟩
  · refine jj_if_eqT (tgt := 19) C dX11_holding_6 (by decide) (by decide) ?_
    refine jj_iconst (v := 1) C dX11_holding_19 (by decide) ?_
    refine jj_goto (tgt := 24) C dX11_holding_20 (by decide) ?_
    refine jj_iconst (v := 1) C dX11_holding_24 (by decide) ?_
    obtain ⟨qc, gs, hqc⟩ := tt_recv (cx := []) hok_2 hk0 (by decide) rfl
    refine tt_callV (rest := []) C (rc_X11_fails_f00e4f hl D cA ak hk0 hkw hka hkt hki hkf hkp hok_2 hm) [] [] rfl rfl (by decide) (by decide) (by decide) qc hqc rfl rfl jw_9c28fd2e32 jw_193b10eb43 jw_69bbe80566 jw_f96c99f44d jw_a520512e18 jn_X11_fails rfl (jj_le rfl) (jj_le rfl) (jj_le rfl) (jj_le rfl) (jj_le rfl) dX11_holding_25 rfl (fun _ _ _ hX => hX.elim) (fun rx pl_9 r O_13 => ?_)
    obtain ⟨rfl, hok_10, hr_11, ha_12, hR_14⟩ := O_13
    replace hC := ha_12.at hkw (by decide) (by decide) hC
    replace hm := hm.fr hr_11 hk0 rfl
    replace hfr := hfr.trans (hr_11.sub (by decide))
    replace hfa := hfa.trans (ha_12.sub (by decide))
    obtain rfl := hR_14
    refine jj_if_eqF (tgt := 35) C dX11_holding_28 (by decide) (by decide) ?_
    refine jj_lconst (v := 0) C dX11_holding_31 (by decide) ?_
    refine jj_goto (tgt := 42) C dX11_holding_32 (by decide) ?_
    exact jj_lret C ⟨[], pl_9, rfl, rfl, hok_10, hfr, hfa, (Or.inl rfl)⟩ dX11_holding_42 (jj_le rfl) (jj_le rfl)
  · refine jj_if_eqF (tgt := 19) C dX11_holding_6 (by decide) (by decide) ?_
    refine jj_aload_n C dX11_holding_9 rfl ?_
    refine jj_iload_n C dX11_holding_10 rfl ?_
    obtain ⟨y_15, ey_15, vy_15⟩ := tt_i2l p2
    refine jj_i2l (v := y_15) C dX11_holding_11 ey_15 ?_
    obtain ⟨qc, gs, hqc⟩ := tt_recv (cx := []) hok_2 hk0 (by decide) rfl
    refine tt_callV (rest := [.ref h0]) C (rc_X11_placeOf_4c3292 hl D cA ak y_15 _ hk0 hkw hka hkt hki hkf hkp ⟨⟨g0a, g0b⟩, ⟨g1a, g1b⟩, ⟨g6a, g6b⟩, ⟨g7a, g7b⟩, ⟨g8a, g8b⟩⟩ hok_2 hm hC) [] [] rfl rfl (by decide) (by decide) (by decide) qc hqc rfl rfl jw_6d1eccde8c jw_a9a05b64d9 jw_ee32d85331 jw_f96c99f44d jw_d7a6daa34b jn_X11_placeOf rfl (jj_le rfl) (jj_le rfl) (jj_le rfl) (jj_le rfl) (jj_le rfl) dX11_holding_12 rfl (fun _ _ _ hX => hX.elim) (fun rx pl_16 r O_20 => ?_)
    obtain ⟨rfl, hok_17, hr_18, ha_19, hR_21⟩ := O_20
    replace hC := ha_19.at hkw (by decide) (by decide) hC
    replace hm := hm.fr hr_18 hk0 rfl
    replace hfr := hfr.trans (hr_18.sub (by decide))
    replace hfa := hfa.trans (ha_19.sub (by decide))
    rcases hR_21 with rfl | ⟨n_22, ln_22, un_22, rfl⟩
    · refine jj_iconst (v := (-1)) C dX11_holding_15 (by decide) ?_
      refine jj_icmp_neF (tgt := 23) C dX11_holding_16 (by decide) (by decide) ?_
      refine jj_iconst (v := 1) C dX11_holding_19 (by decide) ?_
      refine jj_goto (tgt := 24) C dX11_holding_20 (by decide) ?_
      refine jj_iconst (v := 1) C dX11_holding_24 (by decide) ?_
      obtain ⟨qc, gs, hqc⟩ := tt_recv (cx := []) hok_17 hk0 (by decide) rfl
      refine tt_callV (rest := []) C (rc_X11_fails_f00e4f hl D cA ak hk0 hkw hka hkt hki hkf hkp hok_17 hm) [] [] rfl rfl (by decide) (by decide) (by decide) qc hqc rfl rfl jw_9c28fd2e32 jw_193b10eb43 jw_69bbe80566 jw_f96c99f44d jw_a520512e18 jn_X11_fails rfl (jj_le rfl) (jj_le rfl) (jj_le rfl) (jj_le rfl) (jj_le rfl) dX11_holding_25 rfl (fun _ _ _ hX => hX.elim) (fun rx pl_23 r O_27 => ?_)
      obtain ⟨rfl, hok_24, hr_25, ha_26, hR_28⟩ := O_27
      replace hC := ha_26.at hkw (by decide) (by decide) hC
      replace hm := hm.fr hr_25 hk0 rfl
      replace hfr := hfr.trans (hr_25.sub (by decide))
      replace hfa := hfa.trans (ha_26.sub (by decide))
      obtain rfl := hR_28
      refine jj_if_eqF (tgt := 35) C dX11_holding_28 (by decide) (by decide) ?_
      refine jj_lconst (v := 0) C dX11_holding_31 (by decide) ?_
      refine jj_goto (tgt := 42) C dX11_holding_32 (by decide) ?_
      exact jj_lret C ⟨[], pl_23, rfl, rfl, hok_24, hfr, hfa, (Or.inl rfl)⟩ dX11_holding_42 (jj_le rfl) (jj_le rfl)
    · refine jj_iconst (v := (-1)) C dX11_holding_15 (by decide) ?_
      refine jj_icmp_ne (tgt := 23) C dX11_holding_16 (by decide) (fun c_29 => ?_) (fun c_29 => ?_)
      · have z_c_29 := jc_neq (a := ((16 + 5 * n_22 : Nat) : Int)) (b := (-1)) c_29 (rl_ti (by omega)) (by decide)
        refine jj_iconst (v := 0) C dX11_holding_23 (by decide) ?_
        refine jj_iconst (v := 1) C dX11_holding_24 (by decide) ?_
        obtain ⟨qc, gs, hqc⟩ := tt_recv (cx := []) hok_17 hk0 (by decide) rfl
        refine tt_callV (rest := []) C (rc_X11_fails_8f9520 hl D cA ak hk0 hkw hka hkt hki hkf hkp hok_17 hm) [] [] rfl rfl (by decide) (by decide) (by decide) qc hqc rfl rfl jw_9c28fd2e32 jw_193b10eb43 jw_69bbe80566 jw_f96c99f44d jw_a520512e18 jn_X11_fails rfl (jj_le rfl) (jj_le rfl) (jj_le rfl) (jj_le rfl) (jj_le rfl) dX11_holding_25 rfl (fun _ _ _ hX => hX.elim) (fun rx pl_30 r O_34 => ?_)
        obtain ⟨rfl, hok_31, hr_32, ha_33, hR_35⟩ := O_34
        replace hC := ha_33.at hkw (by decide) (by decide) hC
        replace hm := hm.fr hr_32 hk0 rfl
        replace hfr := hfr.trans (hr_32.sub (by decide))
        replace hfa := hfa.trans (ha_33.sub (by decide))
        obtain rfl := hR_35
        refine jj_if_eqT (tgt := 35) C dX11_holding_28 (by decide) (by decide) ?_
        refine jj_aload_n C dX11_holding_35 rfl ?_
        refine jj_iload_n C dX11_holding_36 rfl ?_
        refine jj_iload_n C dX11_holding_37 rfl ?_
        obtain ⟨y_36, ey_36, vy_36⟩ := tt_i2l p2
        refine jj_i2l (v := y_36) C dX11_holding_38 ey_36 ?_
        obtain ⟨qc, gs, hqc⟩ := tt_recv (cx := []) hok_31 hk0 (by decide) rfl
        refine tt_callV (rest := []) C (rc_X11_heldIn_886b3e hl D cA ak p1 y_36 _ hk0 hkw hka hkt hki hkf hkp (by omega) (by omega) ⟨⟨g0a, g0b⟩, ⟨g1a, g1b⟩, ⟨g6a, g6b⟩, ⟨g7a, g7b⟩, ⟨g8a, g8b⟩⟩ hok_31 hm hC) [] [] rfl rfl (by decide) (by decide) (by decide) qc hqc rfl rfl jw_f36a3aef63 jw_ab1c8caae0 jw_683bed708f jw_f96c99f44d jw_f6a1ea64f5 jn_X11_heldIn rfl (jj_le rfl) (jj_le rfl) (jj_le rfl) (jj_le rfl) (jj_le rfl) dX11_holding_39 rfl (fun _ _ _ hX => hX.elim) (fun rx pl_37 r O_41 => ?_)
        obtain ⟨rfl, hok_38, hr_39, ha_40, hR_42⟩ := O_41
        replace hC := ha_40.at hkw (by decide) (by decide) hC
        replace hm := hm.fr hr_39 hk0 rfl
        replace hfr := hfr.trans (hr_39.sub (by decide))
        replace hfa := hfa.trans (ha_40.sub (by decide))
        obtain ⟨y_43, rfl⟩ := hR_42
        exact jj_lret C ⟨[], pl_37, rfl, rfl, hok_38, hfr, hfa, (Or.inr ⟨y_43, (by first | omega | exact tt_lo _ | exact tt_hi _), (by first | omega | exact tt_lo _ | exact tt_hi _), rfl⟩)⟩ dX11_holding_42 (jj_le rfl) (jj_le rfl)
      · have z_c_29 := jc_eq (a := ((16 + 5 * n_22 : Nat) : Int)) (b := (-1)) c_29 (rl_ti (by omega)) (by decide)
        exfalso; omega

set_option maxHeartbeats 4000000 in
set_option maxRecDepth 100000 in
theorem rc_X11_reportByte_d8d95c {l : Launch} (hl : l.stackTraces = false) (D : va_G) (cA : Nat → ClassId) (ak : (Nat → Nat) × (Nat → Nat)) {Kd : Nat → Nat} {h0 aw aa at0 ai af ap : Nat} (p1 : Int32) (hk0 : Kd h0 = 1) (hkw : Kd aw = 2) (hka : Kd aa = 3) (hkt : Kd at0 = 4) (hki : Kd ai = 5) (hkf : Kd af = 6) (hkp : Kd ap = 7) {pl0 : va_W} (hok : tt_ok rt_tk cA Kd pl0) (hm : rl_m pl0 h0 aw aa at0 ai af ap) : jj_M l D cA ak yX11_reportByte (.code yX11_reportByte cX11_reportByte 2 (some .int)) 1 25 0 0 ([] ++ pl0) [.ref h0, .int p1] (tt_O (fun rx pl1 r => rx = [] ∧ tt_ok rt_tk cA Kd pl1 ∧ tt_fr Kd [(1, 7)] pl0 pl1 ∧ tt_fa Kd [] pl0 pl1 ∧ ((r = some (.int 0)) ∨ (∃ v : Int32, (-2147483648 : Int) ≤ v.toInt ∧ v.toInt ≤ 2147483647 ∧ (0 : Int) ≤ p1.toInt ∧ p1.toInt ≤ 2399 ∧ r = some (.int v))))) (tt_OX (fun _ _ _ => False)) := by
  refine jj_start hl (by decide) jw_fd723a2e27 (jj_le rfl) ?_
  intro p e s m args below meth c A hargs hA C hex hmn
  have hfr := tt_fr.refl (K := Kd) (WS := [(1, 7)]) pl0
  have hfa := tt_fa.refl (K := Kd) (WA := []) pl0
  have lp1 := tt_lo p1
  have up1 := tt_hi p1
  refine jj_aload_n C dX11_reportByte_0 rfl ?_
  refine jj_iload_n C dX11_reportByte_1 rfl ?_
  obtain ⟨y_1, ey_1, vy_1⟩ := tt_i2l p1
  refine jj_i2l (v := y_1) C dX11_reportByte_2 ey_1 ?_
  refine jj_lconst (v := 0) C dX11_reportByte_3 (by decide) ?_
  refine jj_aload_n C dX11_reportByte_4 rfl ?_
  refine tt_get C hok jk_12 24 (by decide) jw_51c009b58c (t := (0, 0, 2400)) hk0 (by decide) rfl rfl dX11_reportByte_5 (fun v_2 hv_2 hf_3 => ?_)
  obtain ⟨x_4, rfl, lx_4, ux_4⟩ := tt_vi hv_2
  refine jj_iconst (v := 1) C dX11_reportByte_8 (by decide) ?_
  obtain ⟨x_5, ex_5, vx_5⟩ := tt_isub (x := x_4) (y := (1 : Int32)) (a := x_4.toInt) rfl (b := 1) (by decide) (by omega) (by omega)
  refine jj_isub (v := x_5) C dX11_reportByte_9 ex_5 ?_
  obtain ⟨y_6, ey_6, vy_6⟩ := tt_i2l x_5
  refine jj_i2l (v := y_6) C dX11_reportByte_10 ey_6 ?_
  refine tt_call0S (rest := [.ref h0]) C (ct_X11_in_1 hl D cA ak y_1 y_6) jw_2a24feddee jw_12f28ccfda jw_f96c99f44d jw_e07c9ada56 jn_X11_in rfl (jj_le rfl) (jj_le rfl) (jj_le rfl) (jj_le rfl) (jj_le rfl) dX11_reportByte_11 rfl (fun w1 r O_7 => ?_)
  rcases O_7 with ⟨c_8, -, rfl⟩ | ⟨c_9, c_10, -, rfl⟩ | ⟨c_11, c_12, -, rfl⟩
  · have z_c_8 := jc_ltL (a := y_1.toInt) (b := 0) c_8 rfl (by decide)
    refine jj_if_neF (tgt := 21) C dX11_reportByte_14 (by decide) (by decide) ?_
    refine jj_iconst (v := 1) C dX11_reportByte_17 (by decide) ?_
    refine jj_goto (tgt := 22) C dX11_reportByte_18 (by decide) ?_
    refine jj_iconst (v := 1) C dX11_reportByte_22 (by decide) ?_
    obtain ⟨qc, gs, hqc⟩ := tt_recv (cx := []) hok hk0 (by decide) rfl
    refine tt_callV (rest := []) C (rc_X11_fails_f00e4f hl D cA ak hk0 hkw hka hkt hki hkf hkp hok hm) [] [] rfl rfl (by decide) (by decide) (by decide) qc hqc rfl rfl jw_9c28fd2e32 jw_193b10eb43 jw_69bbe80566 jw_f96c99f44d jw_a520512e18 jn_X11_fails rfl (jj_le rfl) (jj_le rfl) (jj_le rfl) (jj_le rfl) (jj_le rfl) dX11_reportByte_23 rfl (fun _ _ _ hX => hX.elim) (fun rx pl_13 r O_17 => ?_)
    obtain ⟨rfl, hok_14, hr_15, ha_16, hR_18⟩ := O_17
    replace hf_3 := hr_15.at hk0 (by decide) (by decide) hf_3
    replace hm := hm.fr hr_15 hk0 rfl
    replace hfr := hfr.trans (hr_15.sub (by decide))
    replace hfa := hfa.trans (ha_16.sub (by decide))
    obtain rfl := hR_18
    refine jj_if_eqF (tgt := 33) C dX11_reportByte_26 (by decide) (by decide) ?_
    refine jj_iconst (v := 0) C dX11_reportByte_29 (by decide) ?_
    refine jj_goto (tgt := 39) C dX11_reportByte_30 (by decide) ?_
    exact jj_iret C ⟨[], pl_13, rfl, rfl, hok_14, hfr, hfa, (Or.inl rfl)⟩ dX11_reportByte_39 (jj_le rfl) (jj_le rfl)
  · have z_c_9 := jc_nltL (a := y_1.toInt) (b := 0) c_9 rfl (by decide)
    have z_c_10 := jc_ltL (a := y_6.toInt) (b := y_1.toInt) c_10 rfl rfl
    refine jj_if_neF (tgt := 21) C dX11_reportByte_14 (by decide) (by decide) ?_
    refine jj_iconst (v := 1) C dX11_reportByte_17 (by decide) ?_
    refine jj_goto (tgt := 22) C dX11_reportByte_18 (by decide) ?_
    refine jj_iconst (v := 1) C dX11_reportByte_22 (by decide) ?_
    obtain ⟨qc, gs, hqc⟩ := tt_recv (cx := []) hok hk0 (by decide) rfl
    refine tt_callV (rest := []) C (rc_X11_fails_f00e4f hl D cA ak hk0 hkw hka hkt hki hkf hkp hok hm) [] [] rfl rfl (by decide) (by decide) (by decide) qc hqc rfl rfl jw_9c28fd2e32 jw_193b10eb43 jw_69bbe80566 jw_f96c99f44d jw_a520512e18 jn_X11_fails rfl (jj_le rfl) (jj_le rfl) (jj_le rfl) (jj_le rfl) (jj_le rfl) dX11_reportByte_23 rfl (fun _ _ _ hX => hX.elim) (fun rx pl_19 r O_23 => ?_)
    obtain ⟨rfl, hok_20, hr_21, ha_22, hR_24⟩ := O_23
    replace hf_3 := hr_21.at hk0 (by decide) (by decide) hf_3
    replace hm := hm.fr hr_21 hk0 rfl
    replace hfr := hfr.trans (hr_21.sub (by decide))
    replace hfa := hfa.trans (ha_22.sub (by decide))
    obtain rfl := hR_24
    refine jj_if_eqF (tgt := 33) C dX11_reportByte_26 (by decide) (by decide) ?_
    refine jj_iconst (v := 0) C dX11_reportByte_29 (by decide) ?_
    refine jj_goto (tgt := 39) C dX11_reportByte_30 (by decide) ?_
    exact jj_iret C ⟨[], pl_19, rfl, rfl, hok_20, hfr, hfa, (Or.inl rfl)⟩ dX11_reportByte_39 (jj_le rfl) (jj_le rfl)
  · have z_c_11 := jc_nltL (a := y_1.toInt) (b := 0) c_11 rfl (by decide)
    have z_c_12 := jc_nltL (a := y_6.toInt) (b := y_1.toInt) c_12 rfl rfl
    refine jj_if_neT (tgt := 21) C dX11_reportByte_14 (by decide) (by decide) ?_
    refine jj_iconst (v := 0) C dX11_reportByte_21 (by decide) ?_
    refine jj_iconst (v := 1) C dX11_reportByte_22 (by decide) ?_
    obtain ⟨qc, gs, hqc⟩ := tt_recv (cx := []) hok hk0 (by decide) rfl
    refine tt_callV (rest := []) C (rc_X11_fails_8f9520 hl D cA ak hk0 hkw hka hkt hki hkf hkp hok hm) [] [] rfl rfl (by decide) (by decide) (by decide) qc hqc rfl rfl jw_9c28fd2e32 jw_193b10eb43 jw_69bbe80566 jw_f96c99f44d jw_a520512e18 jn_X11_fails rfl (jj_le rfl) (jj_le rfl) (jj_le rfl) (jj_le rfl) (jj_le rfl) dX11_reportByte_23 rfl (fun _ _ _ hX => hX.elim) (fun rx pl_25 r O_29 => ?_)
    obtain ⟨rfl, hok_26, hr_27, ha_28, hR_30⟩ := O_29
    replace hf_3 := hr_27.at hk0 (by decide) (by decide) hf_3
    replace hm := hm.fr hr_27 hk0 rfl
    replace hfr := hfr.trans (hr_27.sub (by decide))
    replace hfa := hfa.trans (ha_28.sub (by decide))
    obtain rfl := hR_30
    refine jj_if_eqT (tgt := 33) C dX11_reportByte_26 (by decide) (by decide) ?_
    refine jj_aload_n C dX11_reportByte_33 rfl ?_
    refine tt_get C hok_26 jk_12 23 (by decide) jw_31f1259aa4 (t := (2, 13, 0)) hk0 (by decide) rfl rfl dX11_reportByte_34 (fun v_31 hv_31 hf_32 => ?_)
    obtain ⟨a_33, rfl, ka_33⟩ := tt_vr hv_31
    refine jj_iload_n C dX11_reportByte_37 rfl ?_
    refine tt_bald C hok_26 (t := (0, (-2147483648), 2147483647)) ka_33 (by decide) rfl (vp_in_iff.mpr ⟨by omega, by omega⟩) dX11_reportByte_38 (fun v_34 hv_34 => ?_)
    exact jj_iret C ⟨[], pl_25, rfl, rfl, hok_26, hfr, hfa, (Or.inr ⟨v_34, (by first | omega | exact tt_lo _ | exact tt_hi _), (by first | omega | exact tt_lo _ | exact tt_hi _), (by first | omega | exact tt_lo _ | exact tt_hi _), (by first | omega | exact tt_lo _ | exact tt_hi _), rfl⟩)⟩ dX11_reportByte_39 (jj_le rfl) (jj_le rfl)

set_option maxHeartbeats 4000000 in
set_option maxRecDepth 100000 in
theorem rc_X11_no_e1d97a {l : Launch} (hl : l.stackTraces = false) (D : va_G) (cA : Nat → ClassId) (ak : (Nat → Nat) × (Nat → Nat)) {Kd : Nat → Nat} {h0 aw aa at0 ai af ap : Nat} (hk0 : Kd h0 = 1) (hkw : Kd aw = 2) (hka : Kd aa = 3) (hkt : Kd at0 = 4) (hki : Kd ai = 5) (hkf : Kd af = 6) (hkp : Kd ap = 7) {pl0 : va_W} (hok : tt_ok rt_tk cA Kd pl0) (hm : rl_m pl0 h0 aw aa at0 ai af ap) : jj_M l D cA ak yX11_no (.code yX11_no cX11_no 2 (some .int)) 0 0 0 0 ([] ++ pl0) [.ref h0, .int 1] (tt_O (fun rx pl1 r => rx = [] ∧ tt_ok rt_tk cA Kd pl1 ∧ tt_fr Kd [(1, 7)] pl0 pl1 ∧ tt_fa Kd [] pl0 pl1 ∧ ((r = some (.int 0))))) (tt_OX (fun _ _ _ => False)) := by
  refine jj_start hl (by decide) jw_db0108e47b (jj_le rfl) ?_
  intro p e s m args below meth c A hargs hA C hex hmn
  have hfr := tt_fr.refl (K := Kd) (WS := [(1, 7)]) pl0
  have hfa := tt_fa.refl (K := Kd) (WA := []) pl0
  refine jj_aload_n C dX11_no_0 rfl ?_
  refine jj_iload_n C dX11_no_1 rfl ?_
  refine rl_put C hok jk_12 7 (by decide) jw_0a65e3738e (t := (0, (-2147483648), 2147483647)) hk0 (by decide) rfl rfl rfl (tt_ia (1 : Int32)) rfl rfl dX11_no_2 (fun pl_1 hok_2 tr hn tl => ?_)
  have hf_3 := hn
  replace hm := hm.put tr (by decide)
  replace hfr := hfr.put hk0 tr (by decide)
  replace hfa := hfa.all tl
  refine jj_iconst (v := 0) C dX11_no_5 (by decide) ?_
  exact jj_iret C ⟨[], pl_1, rfl, rfl, hok_2, hfr, hfa, rfl⟩ dX11_no_6 (jj_le rfl) (jj_le rfl)

set_option maxHeartbeats 4000000 in
set_option maxRecDepth 100000 in
theorem rc_X11_truncateText_d8d95c {l : Launch} (hl : l.stackTraces = false) (D : va_G) (cA : Nat → ClassId) (ak : (Nat → Nat) × (Nat → Nat)) {Kd : Nat → Nat} {h0 aw aa at0 ai af ap : Nat} (p1 : Int32) (hk0 : Kd h0 = 1) (hkw : Kd aw = 2) (hka : Kd aa = 3) (hkt : Kd at0 = 4) (hki : Kd ai = 5) (hkf : Kd af = 6) (hkp : Kd ap = 7) {pl0 : va_W} (hok : tt_ok rt_tk cA Kd pl0) (hm : rl_m pl0 h0 aw aa at0 ai af ap) : jj_M l D cA ak yX11_truncateText (.code yX11_truncateText cX11_truncateText 2 (some .int)) 1 25 0 0 ([] ++ pl0) [.ref h0, .int p1] (tt_O (fun rx pl1 r => rx = [] ∧ tt_ok rt_tk cA Kd pl1 ∧ tt_fr Kd [(1, 7), (1, 13)] pl0 pl1 ∧ tt_fa Kd [] pl0 pl1 ∧ ((r = some (.int 0)) ∨ (∃ v : Int32, (0 : Int) ≤ v.toInt ∧ v.toInt ≤ 400 ∧ (0 : Int) ≤ p1.toInt ∧ p1.toInt ≤ 400 ∧ r = some (.int v))))) (tt_OX (fun _ _ _ => False)) := by
  refine jj_start hl (by decide) jw_5f822bde56 (jj_le rfl) ?_
  intro p e s m args below meth c A hargs hA C hex hmn
  have hfr := tt_fr.refl (K := Kd) (WS := [(1, 7), (1, 13)]) pl0
  have hfa := tt_fa.refl (K := Kd) (WA := []) pl0
  have lp1 := tt_lo p1
  have up1 := tt_hi p1
  refine jj_iload_n C dX11_truncateText_0 rfl ?_
  obtain ⟨y_1, ey_1, vy_1⟩ := tt_i2l p1
  refine jj_i2l (v := y_1) C dX11_truncateText_1 ey_1 ?_
  refine jj_lconst (v := 0) C dX11_truncateText_2 (by decide) ?_
  refine jj_aload_n C dX11_truncateText_3 rfl ?_
  refine tt_get C hok jk_12 13 (by decide) jw_fabf3762b1 (t := (0, 0, 400)) hk0 (by decide) rfl rfl dX11_truncateText_4 (fun v_2 hv_2 hf_3 => ?_)
  obtain ⟨x_4, rfl, lx_4, ux_4⟩ := tt_vi hv_2
  obtain ⟨y_5, ey_5, vy_5⟩ := tt_i2l x_4
  refine jj_i2l (v := y_5) C dX11_truncateText_7 ey_5 ?_
  refine tt_call0S (rest := []) C (ct_X11_in_1 hl D cA ak y_1 y_5) jw_2a24feddee jw_12f28ccfda jw_f96c99f44d jw_e07c9ada56 jn_X11_in rfl (jj_le rfl) (jj_le rfl) (jj_le rfl) (jj_le rfl) (jj_le rfl) dX11_truncateText_8 rfl (fun w1 r O_6 => ?_)
  rcases O_6 with ⟨c_7, -, rfl⟩ | ⟨c_8, c_9, -, rfl⟩ | ⟨c_10, c_11, -, rfl⟩
  · have z_c_7 := jc_ltL (a := y_1.toInt) (b := 0) c_7 rfl (by decide)
    refine jj_if_neF (tgt := 20) C dX11_truncateText_11 (by decide) (by decide) ?_
    refine jj_aload_n C dX11_truncateText_14 rfl ?_
    refine jj_iconst (v := 1) C dX11_truncateText_15 (by decide) ?_
    obtain ⟨qc, gs, hqc⟩ := tt_recv (cx := []) hok hk0 (by decide) rfl
    refine tt_callV (rest := []) C (rc_X11_no_e1d97a hl D cA ak hk0 hkw hka hkt hki hkf hkp hok hm) [] [] rfl rfl (by decide) (by decide) (by decide) qc hqc rfl rfl jw_d1b9c9bc08 jw_0a7e47b48e jw_ae3979bf43 jw_f96c99f44d jw_db0108e47b jn_X11_no rfl (jj_le rfl) (jj_le rfl) (jj_le rfl) (jj_le rfl) (jj_le rfl) dX11_truncateText_16 rfl (fun _ _ _ hX => hX.elim) (fun rx pl_12 r O_16 => ?_)
    obtain ⟨rfl, hok_13, hr_14, ha_15, hR_17⟩ := O_16
    replace hf_3 := hr_14.at hk0 (by decide) (by decide) hf_3
    replace hm := hm.fr hr_14 hk0 rfl
    replace hfr := hfr.trans (hr_14.sub (by decide))
    replace hfa := hfa.trans (ha_15.sub (by decide))
    obtain rfl := hR_17
    exact jj_iret C ⟨[], pl_12, rfl, rfl, hok_13, hfr, hfa, (Or.inl rfl)⟩ dX11_truncateText_19 (jj_le rfl) (jj_le rfl)
  · have z_c_8 := jc_nltL (a := y_1.toInt) (b := 0) c_8 rfl (by decide)
    have z_c_9 := jc_ltL (a := y_5.toInt) (b := y_1.toInt) c_9 rfl rfl
    refine jj_if_neF (tgt := 20) C dX11_truncateText_11 (by decide) (by decide) ?_
    refine jj_aload_n C dX11_truncateText_14 rfl ?_
    refine jj_iconst (v := 1) C dX11_truncateText_15 (by decide) ?_
    obtain ⟨qc, gs, hqc⟩ := tt_recv (cx := []) hok hk0 (by decide) rfl
    refine tt_callV (rest := []) C (rc_X11_no_e1d97a hl D cA ak hk0 hkw hka hkt hki hkf hkp hok hm) [] [] rfl rfl (by decide) (by decide) (by decide) qc hqc rfl rfl jw_d1b9c9bc08 jw_0a7e47b48e jw_ae3979bf43 jw_f96c99f44d jw_db0108e47b jn_X11_no rfl (jj_le rfl) (jj_le rfl) (jj_le rfl) (jj_le rfl) (jj_le rfl) dX11_truncateText_16 rfl (fun _ _ _ hX => hX.elim) (fun rx pl_18 r O_22 => ?_)
    obtain ⟨rfl, hok_19, hr_20, ha_21, hR_23⟩ := O_22
    replace hf_3 := hr_20.at hk0 (by decide) (by decide) hf_3
    replace hm := hm.fr hr_20 hk0 rfl
    replace hfr := hfr.trans (hr_20.sub (by decide))
    replace hfa := hfa.trans (ha_21.sub (by decide))
    obtain rfl := hR_23
    exact jj_iret C ⟨[], pl_18, rfl, rfl, hok_19, hfr, hfa, (Or.inl rfl)⟩ dX11_truncateText_19 (jj_le rfl) (jj_le rfl)
  · have z_c_10 := jc_nltL (a := y_1.toInt) (b := 0) c_10 rfl (by decide)
    have z_c_11 := jc_nltL (a := y_5.toInt) (b := y_1.toInt) c_11 rfl rfl
    refine jj_if_neT (tgt := 20) C dX11_truncateText_11 (by decide) (by decide) ?_
    refine jj_aload_n C dX11_truncateText_20 rfl ?_
    refine jj_iconst (v := 0) C dX11_truncateText_21 (by decide) ?_
    refine rl_put C hok jk_12 7 (by decide) jw_0a65e3738e (t := (0, (-2147483648), 2147483647)) hk0 (by decide) rfl rfl rfl (tt_ia (0 : Int32)) rfl rfl dX11_truncateText_22 (fun pl_24 hok_25 tr hn tl => ?_)
    replace hf_3 := tr _ _ _ (Or.inr (by decide)) hf_3
    have hf_26 := hn
    replace hm := hm.put tr (by decide)
    replace hfr := hfr.put hk0 tr (by decide)
    replace hfa := hfa.all tl
    refine jj_aload_n C dX11_truncateText_25 rfl ?_
    refine jj_iload_n C dX11_truncateText_26 rfl ?_
    refine rl_put C hok_25 jk_12 13 (by decide) jw_fabf3762b1 (t := (0, 0, 400)) hk0 (by decide) rfl rfl rfl (tt_iv (by omega) (by omega)) rfl rfl dX11_truncateText_27 (fun pl_27 hok_28 tr hn tl => ?_)
    replace hf_26 := tr _ _ _ (Or.inr (by decide)) hf_26
    have hf_29 := hn
    replace hm := hm.put tr (by decide)
    replace hfr := hfr.put hk0 tr (by decide)
    replace hfa := hfa.all tl
    refine jj_iload_n C dX11_truncateText_30 rfl ?_
    exact jj_iret C ⟨[], pl_27, rfl, rfl, hok_28, hfr, hfa, (Or.inr ⟨p1, (by first | omega | exact tt_lo _ | exact tt_hi _), (by first | omega | exact tt_lo _ | exact tt_hi _), (by first | omega | exact tt_lo _ | exact tt_hi _), (by first | omega | exact tt_lo _ | exact tt_hi _), rfl⟩)⟩ dX11_truncateText_31 (jj_le rfl) (jj_le rfl)

set_option maxHeartbeats 4000000 in
set_option maxRecDepth 100000 in
theorem rc_X11_lotsIn_2d6a5c {l : Launch} (hl : l.stackTraces = false) (D : va_G) (cA : Nat → ClassId) (ak : (Nat → Nat) × (Nat → Nat)) {Kd : Nat → Nat} {h0 aw aa at0 ai af ap : Nat} (p1 : Nat) (f : Nat → Int64) (hk0 : Kd h0 = 1) (hkw : Kd aw = 2) (hka : Kd aa = 3) (hkt : Kd at0 = 4) (hki : Kd ai = 5) (hkf : Kd af = 6) (hkp : Kd ap = 7) (lp1 : (16 : Int) ≤ (p1 : Int)) (up1 : (p1 : Int) ≤ 41) (hH : rl_h f) {pl0 : va_W} (hok : tt_ok rt_tk cA Kd pl0) (hm : rl_m pl0 h0 aw aa at0 ai af ap) (hC : tt_lc pl0 aw f) : jj_M l D cA ak yX11_lotsIn (.code yX11_lotsIn cX11_lotsIn 5 (some .long)) 1 20 0 0 ([] ++ pl0) [.ref h0, .int (nI p1)] (tt_O (fun rx pl1 r => rx = [] ∧ tt_ok rt_tk cA Kd pl1 ∧ tt_fr Kd [] pl0 pl1 ∧ tt_fa Kd [] pl0 pl1 ∧ ((∃ v : Int64, r = some (.long v))))) (tt_OX (fun _ _ _ => False)) := by
  refine jj_start hl (by decide) jw_0c87120cfc (jj_le rfl) ?_
  intro p e s m args below meth c A hargs hA C hex hmn
  have hfr := tt_fr.refl (K := Kd) (WS := []) pl0
  have hfa := tt_fa.refl (K := Kd) (WA := []) pl0
  obtain ⟨⟨g0a, g0b⟩, ⟨g1a, g1b⟩, ⟨g6a, g6b⟩, ⟨g7a, g7b⟩, ⟨g8a, g8b⟩⟩ := hH
  refine jj_lconst (v := 0) C dX11_lotsIn_0 (by decide) ?_
  refine jj_lstore_n C dX11_lotsIn_1 (by decide) rfl ?_
  refine jj_iconst (v := 0) C dX11_lotsIn_2 (by decide) ?_
  refine jj_istore C dX11_lotsIn_3 (by decide) rfl ?_
  have hL_1 : ∀ (N : Nat) (pl : va_W) (k_2 : Nat) (y_3 : Int64), True → tt_ok rt_tk cA Kd pl → tt_fr Kd [] pl0 pl → tt_fa Kd [] pl0 pl → rl_m pl h0 aw aa at0 ai af ap → tt_lc pl aw f → (0 : Int) ≤ (k_2 : Int) → (k_2 : Int) ≤ 40 → (2147483648 - (k_2 : Int) ≤ (N : Int)) → jj_J p l e (jj_rm 1 20 0 0) s m args below meth c 5 A (vx_MQ below (jj_q D A (tt_O (fun rx pl1 r => rx = [] ∧ tt_ok rt_tk cA Kd pl1 ∧ tt_fr Kd [] pl0 pl1 ∧ tt_fa Kd [] pl0 pl1 ∧ ((∃ v : Int64, r = some (.long v)))))) (jj_x D A (tt_OX (fun _ _ _ => False))) args s 0 0 A) (jj_X D A ([] ++ pl)) 0 0 5 [(4, .int (nI k_2)), (2, .long y_3), (0, .ref h0), (1, .int (nI p1))] [] := by
    intro NL_1
    induction NL_1 with
    | zero => intro pl k_2 y_3 _ hok hfr hfa hm hC lk_2 uk_2 hNL_1; exfalso; omega
    | succ NL_1 ihL_1 =>
      intro pl k_2 y_3 _ hok hfr hfa hm hC lk_2 uk_2 hNL_1
      replace ihL_1 := fun pl k_2 y_3 h1 => ihL_1 pl k_2 y_3 trivial h1
      refine jj_iload C dX11_lotsIn_5 rfl ?_
      refine jj_i2l C dX11_lotsIn_7 rfl ?_
      refine jj_aload_n C dX11_lotsIn_8 rfl ?_
      refine tt_getF C hok jk_12 0 (by decide) jw_34eaf3ba8b (t := (2, 2, 0)) hk0 (by decide) rfl rfl hm.1 dX11_lotsIn_9 ?_
      refine jj_bipush (v := 7) C dX11_lotsIn_12 (by decide) ?_
      refine rl_lald C hok (t := (1, (-9223372036854775808), 9223372036854775807)) hkw (by decide) rfl (k := 7) (v := (f 7)) (vp_in_iff.mpr (by decide)) hC (by decide) rfl dX11_lotsIn_14 ?_
      refine jj_lcmp_ge (tgt := 57) C dX11_lotsIn_15 dX11_lotsIn_16 (by decide) (fun c_4 => ?_) (fun c_4 => ?_)
      · have z_c_4 := jc_leL (a := (f 7).toInt) (b := ((k_2 : Nat) : Int)) c_4 rfl (rl_tl (by omega))
        refine jj_lload_n C dX11_lotsIn_57 rfl ?_
        exact jj_lret C ⟨[], pl, rfl, rfl, hok, hfr, hfa, ⟨y_3, rfl⟩⟩ dX11_lotsIn_58 (jj_le rfl) (jj_le rfl)
      · have z_c_4 := jc_nleL (a := (f 7).toInt) (b := ((k_2 : Nat) : Int)) c_4 rfl (rl_tl (by omega))
        refine jj_lload_n C dX11_lotsIn_19 rfl ?_
        refine jj_aload_n C dX11_lotsIn_20 rfl ?_
        refine tt_getF C hok jk_12 0 (by decide) jw_34eaf3ba8b (t := (2, 2, 0)) hk0 (by decide) rfl rfl hm.1 dX11_lotsIn_21 ?_
        refine jj_iload C dX11_lotsIn_24 rfl ?_
        refine tt_call0S (rest := [.ref aw, .long y_3]) C (rn_lotAt hl D cA ak k_2 (46 + 6 * k_2) (by omega)) jw_4c8c4b88e2 jw_0fa3e2bccb jw_f96c99f44d jw_d540d98a1c jn_X11_lotAt rfl (jj_le rfl) (jj_le rfl) (jj_le rfl) (jj_le rfl) (jj_le rfl) dX11_lotsIn_26 rfl (fun w1 r hO => ?_)
        obtain ⟨-, rfl⟩ := hO
        refine jj_iconst (v := 1) C dX11_lotsIn_29 (by decide) ?_
        refine jj_iadd (v := nI (47 + 6 * k_2)) C dX11_lotsIn_30 (rl_addR (kn := 1) (by decide) (by omega)) ?_
        refine rl_lald C hok (t := (1, (-9223372036854775808), 9223372036854775807)) hkw (by decide) rfl (k := 47 + 6 * k_2) (v := (f (47 + 6 * k_2))) (vp_in_nI (by omega) (by decide)) hC (nI_clamp (by omega)) rfl dX11_lotsIn_31 ?_
        refine jj_aload_n C dX11_lotsIn_32 rfl ?_
        refine tt_getF C hok jk_12 0 (by decide) jw_34eaf3ba8b (t := (2, 2, 0)) hk0 (by decide) rfl rfl hm.1 dX11_lotsIn_33 ?_
        refine jj_iload_n C dX11_lotsIn_36 rfl ?_
        refine jj_iconst (v := 0) C dX11_lotsIn_37 (by decide) ?_
        refine jj_iadd (v := nI p1) C dX11_lotsIn_38 (rl_addR (kn := 0) (by decide) (by omega)) ?_
        refine rl_lald C hok (t := (1, (-9223372036854775808), 9223372036854775807)) hkw (by decide) rfl (k := p1) (v := (f p1)) (vp_in_nI (by omega) (by decide)) hC (nI_clamp (by omega)) rfl dX11_lotsIn_39 ?_
        refine jj_lcmp_ne (tgt := 48) C dX11_lotsIn_40 dX11_lotsIn_41 (by decide) (fun c_5 => ?_) (fun c_5 => ?_)
        · have z_c_5 := jc_neqL (a := (f (47 + 6 * k_2)).toInt) (b := (f p1).toInt) c_5 rfl rfl
          refine jj_lconst (v := 0) C dX11_lotsIn_48 (by decide) ?_
          obtain ⟨y_6, ey_6⟩ : ∃ z : Int64, y_3 + (0 : Int64) = z := ⟨_, rfl⟩
          refine jj_ladd (v := y_6) C dX11_lotsIn_49 ey_6 ?_
          refine jj_lstore_n C dX11_lotsIn_50 (by decide) rfl ?_
          refine jj_iinc (v := nI (1 + k_2)) C dX11_lotsIn_51 rfl (rl_addR (kn := 1) (by decide) (by omega)) (by decide) rfl ?_
          refine jj_goto (tgt := 5) C dX11_lotsIn_54 (by decide) ?_
          exact ihL_1 pl (1 + k_2) y_6 hok hfr hfa hm hC (by first | omega | decide | exact tt_lo _ | exact tt_hi _) (by first | omega | decide | exact tt_lo _ | exact tt_hi _) (by first | omega | decide | exact tt_lo _ | exact tt_hi _)
        · have z_c_5 := jc_eqL (a := (f (47 + 6 * k_2)).toInt) (b := (f p1).toInt) c_5 rfl rfl
          refine jj_lconst (v := 1) C dX11_lotsIn_44 (by decide) ?_
          refine jj_goto (tgt := 49) C dX11_lotsIn_45 (by decide) ?_
          obtain ⟨y_7, ey_7⟩ : ∃ z : Int64, y_3 + (1 : Int64) = z := ⟨_, rfl⟩
          refine jj_ladd (v := y_7) C dX11_lotsIn_49 ey_7 ?_
          refine jj_lstore_n C dX11_lotsIn_50 (by decide) rfl ?_
          refine jj_iinc (v := nI (1 + k_2)) C dX11_lotsIn_51 rfl (rl_addR (kn := 1) (by decide) (by omega)) (by decide) rfl ?_
          refine jj_goto (tgt := 5) C dX11_lotsIn_54 (by decide) ?_
          exact ihL_1 pl (1 + k_2) y_7 hok hfr hfa hm hC (by first | omega | decide | exact tt_lo _ | exact tt_hi _) (by first | omega | decide | exact tt_lo _ | exact tt_hi _) (by first | omega | decide | exact tt_lo _ | exact tt_hi _)
  exact hL_1 _ pl0 0 (0 : Int64) trivial hok hfr hfa hm hC (by first | omega | decide | exact tt_lo _ | exact tt_hi _) (by first | omega | decide | exact tt_lo _ | exact tt_hi _) (Int.self_le_toNat _)
