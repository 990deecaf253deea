theorem jw_de18ee3bed : Cond.methodLink RL 120 yL_appendText ∈ jj_G := jj_t4 (List.mem_of_getElem? (i := 149) (by decide +kernel)) rfl
theorem jw_2ec6af59de : Cond.initialized RL ∈ jj_G := jj_t1 (List.mem_of_getElem? (i := 0) (by decide +kernel)) rfl
theorem jw_90baff392d : Cond.static yL_appendText ∈ jj_G := jj_t4 (List.mem_of_getElem? (i := 150) (by decide +kernel)) rfl
theorem jn_L_appendText : jj_N yL_appendText 7 := by unfold jj_N; decide +kernel
theorem jw_582af37e62 : Cond.methodLink RL 125 yX11_appendText ∈ jj_G := jj_t8 (List.mem_of_getElem? (i := 34) (by decide +kernel)) rfl
theorem jw_0d068eb0d6 : Cond.instanceMethod yX11_appendText ∈ jj_G := jj_t8 (List.mem_of_getElem? (i := 35) (by decide +kernel)) rfl
theorem jw_94a02cd724 : Cond.selects RX11 yX11_appendText yX11_appendText ∈ jj_G := jj_t8 (List.mem_of_getElem? (i := 36) (by decide +kernel)) rfl
theorem jn_X11_appendText : jj_N yX11_appendText 5 := by unfold jj_N; decide +kernel
theorem jw_b616baec39 : Cond.methodLink RL 126 yL_truncateText ∈ jj_G := jj_t4 (List.mem_of_getElem? (i := 231) (by decide +kernel)) rfl
theorem jw_2b952f0ce1 : Cond.static yL_truncateText ∈ jj_G := jj_t4 (List.mem_of_getElem? (i := 232) (by decide +kernel)) rfl
theorem jn_L_truncateText : jj_N yL_truncateText 3 := by unfold jj_N; decide +kernel
theorem jw_6de6af823c : Cond.methodLink RL 129 yX11_truncateText ∈ jj_G := jj_t8 (List.mem_of_getElem? (i := 42) (by decide +kernel)) rfl
theorem jw_81113515e3 : Cond.instanceMethod yX11_truncateText ∈ jj_G := jj_t8 (List.mem_of_getElem? (i := 43) (by decide +kernel)) rfl
theorem jw_b938caa447 : Cond.selects RX11 yX11_truncateText yX11_truncateText ∈ jj_G := jj_t8 (List.mem_of_getElem? (i := 44) (by decide +kernel)) rfl
theorem jn_X11_truncateText : jj_N yX11_truncateText 1 := by unfold jj_N; decide +kernel
theorem jw_19adc06c07 : Cond.methodLink RL 130 yX10_parseFund ∈ jj_G := jj_t2 (List.mem_of_getElem? (i := 128) (by decide +kernel)) rfl
theorem jw_1f29d0ec54 : Cond.instanceMethod yX10_parseFund ∈ jj_G := jj_t2 (List.mem_of_getElem? (i := 129) (by decide +kernel)) rfl
theorem jw_5438499b53 : Cond.selects RX10 yX10_parseFund yX10_parseFund ∈ jj_G := jj_t2 (List.mem_of_getElem? (i := 130) (by decide +kernel)) rfl
theorem jn_X10_parseFund : jj_N yX10_parseFund 0 := by unfold jj_N; decide +kernel
theorem jw_5a171a7dfd : Cond.methodLink RL 133 yX11_parseFund ∈ jj_G := jj_t8 (List.mem_of_getElem? (i := 46) (by decide +kernel)) rfl
theorem jw_dc42d8e0d6 : Cond.instanceMethod yX11_parseFund ∈ jj_G := jj_t8 (List.mem_of_getElem? (i := 47) (by decide +kernel)) rfl
theorem jw_95b9944995 : Cond.selects RX11 yX11_parseFund yX11_parseFund ∈ jj_G := jj_t8 (List.mem_of_getElem? (i := 48) (by decide +kernel)) rfl
theorem jn_X11_parseFund : jj_N yX11_parseFund 0 := by unfold jj_N; decide +kernel
theorem jw_2aa3c19043 : Cond.methodLink RL 134 yX10_errorCode ∈ jj_G := jj_t3 (List.mem_of_getElem? (i := 159) (by decide +kernel)) rfl
theorem jw_2ac5472b21 : Cond.instanceMethod yX10_errorCode ∈ jj_G := jj_t3 (List.mem_of_getElem? (i := 160) (by decide +kernel)) rfl
theorem jw_cb735f822e : Cond.selects RX10 yX10_errorCode yX10_errorCode ∈ jj_G := jj_t3 (List.mem_of_getElem? (i := 161) (by decide +kernel)) rfl
theorem jn_X10_errorCode : jj_N yX10_errorCode 0 := by unfold jj_N; decide +kernel
theorem jw_a2262bffe0 : Cond.methodLink RL 137 yX11_errorCode ∈ jj_G := jj_t8 (List.mem_of_getElem? (i := 103) (by decide +kernel)) rfl
theorem jw_59589a51e7 : Cond.instanceMethod yX11_errorCode ∈ jj_G := jj_t8 (List.mem_of_getElem? (i := 104) (by decide +kernel)) rfl
theorem jw_4697e3e654 : Cond.selects RX11 yX11_errorCode yX11_errorCode ∈ jj_G := jj_t8 (List.mem_of_getElem? (i := 105) (by decide +kernel)) rfl
theorem jn_X11_errorCode : jj_N yX11_errorCode 0 := by unfold jj_N; decide +kernel
theorem jw_d80c95d5c6 : Cond.methodLink RL 138 yX10_errorPosition ∈ jj_G := jj_t3 (List.mem_of_getElem? (i := 163) (by decide +kernel)) rfl
theorem jw_7929d985cd : Cond.instanceMethod yX10_errorPosition ∈ jj_G := jj_t3 (List.mem_of_getElem? (i := 164) (by decide +kernel)) rfl
theorem jw_e7e7a0053b : Cond.selects RX10 yX10_errorPosition yX10_errorPosition ∈ jj_G := jj_t3 (List.mem_of_getElem? (i := 165) (by decide +kernel)) rfl
theorem jn_X10_errorPosition : jj_N yX10_errorPosition 0 := by unfold jj_N; decide +kernel
theorem jw_06f463b1fd : Cond.methodLink RL 141 yX11_errorPosition ∈ jj_G := jj_t8 (List.mem_of_getElem? (i := 107) (by decide +kernel)) rfl
theorem jw_7f0590cefd : Cond.instanceMethod yX11_errorPosition ∈ jj_G := jj_t8 (List.mem_of_getElem? (i := 108) (by decide +kernel)) rfl
theorem jw_72750b26f6 : Cond.selects RX11 yX11_errorPosition yX11_errorPosition ∈ jj_G := jj_t8 (List.mem_of_getElem? (i := 109) (by decide +kernel)) rfl
theorem jn_X11_errorPosition : jj_N yX11_errorPosition 0 := by unfold jj_N; decide +kernel
theorem jw_24dcb6130e : Cond.methodLink RL 142 yL_subscribe ∈ jj_G := jj_t5 (List.mem_of_getElem? (i := 15) (by decide +kernel)) rfl
theorem jw_cbc2c36111 : Cond.static yL_subscribe ∈ jj_G := jj_t5 (List.mem_of_getElem? (i := 16) (by decide +kernel)) rfl
theorem jn_L_subscribe : jj_N yL_subscribe 4 := by unfold jj_N; decide +kernel
theorem jw_7f245152d7 : Cond.methodLink RL 145 yX11_subscribe ∈ jj_G := jj_t7 (List.mem_of_getElem? (i := 135) (by decide +kernel)) rfl
theorem jw_33f46dafb4 : Cond.instanceMethod yX11_subscribe ∈ jj_G := jj_t7 (List.mem_of_getElem? (i := 136) (by decide +kernel)) rfl
theorem jw_82e1af9bb3 : Cond.selects RX11 yX11_subscribe yX11_subscribe ∈ jj_G := jj_t7 (List.mem_of_getElem? (i := 137) (by decide +kernel)) rfl
theorem jn_X11_subscribe : jj_N yX11_subscribe 2 := by unfold jj_N; decide +kernel
theorem jw_9a599bf1ae : Cond.methodLink RL 146 yL_redeem ∈ jj_G := jj_t5 (List.mem_of_getElem? (i := 66) (by decide +kernel)) rfl
theorem jw_7d68a9faa1 : Cond.static yL_redeem ∈ jj_G := jj_t5 (List.mem_of_getElem? (i := 67) (by decide +kernel)) rfl
theorem jn_L_redeem : jj_N yL_redeem 4 := by unfold jj_N; decide +kernel
theorem jw_b5234e4602 : Cond.methodLink RL 148 yX11_redeem ∈ jj_G := jj_t7 (List.mem_of_getElem? (i := 164) (by decide +kernel)) rfl
theorem jw_91dd534c12 : Cond.instanceMethod yX11_redeem ∈ jj_G := jj_t7 (List.mem_of_getElem? (i := 165) (by decide +kernel)) rfl
theorem jw_fbbba33078 : Cond.selects RX11 yX11_redeem yX11_redeem ∈ jj_G := jj_t7 (List.mem_of_getElem? (i := 166) (by decide +kernel)) rfl
theorem jn_X11_redeem : jj_N yX11_redeem 2 := by unfold jj_N; decide +kernel
theorem jw_a5282f13c1 : Cond.methodLink RL 149 yL_withdraw ∈ jj_G := jj_t5 (List.mem_of_getElem? (i := 74) (by decide +kernel)) rfl
theorem jw_a088415dd9 : Cond.static yL_withdraw ∈ jj_G := jj_t5 (List.mem_of_getElem? (i := 75) (by decide +kernel)) rfl
theorem jn_L_withdraw : jj_N yL_withdraw 3 := by unfold jj_N; decide +kernel
theorem jw_5e4482e8ec : Cond.methodLink RL 151 yX11_withdraw ∈ jj_G := jj_t7 (List.mem_of_getElem? (i := 180) (by decide +kernel)) rfl
theorem jw_7fecc15388 : Cond.instanceMethod yX11_withdraw ∈ jj_G := jj_t7 (List.mem_of_getElem? (i := 181) (by decide +kernel)) rfl
theorem jw_92e2f5da72 : Cond.selects RX11 yX11_withdraw yX11_withdraw ∈ jj_G := jj_t7 (List.mem_of_getElem? (i := 182) (by decide +kernel)) rfl
theorem jn_X11_withdraw : jj_N yX11_withdraw 1 := by unfold jj_N; decide +kernel
theorem jw_b5e94a7020 : Cond.methodLink RL 152 yX10_deal ∈ jj_G := jj_t3 (List.mem_of_getElem? (i := 167) (by decide +kernel)) rfl
theorem jw_cd72180a99 : Cond.instanceMethod yX10_deal ∈ jj_G := jj_t3 (List.mem_of_getElem? (i := 168) (by decide +kernel)) rfl
theorem jw_37138cd566 : Cond.selects RX10 yX10_deal yX10_deal ∈ jj_G := jj_t3 (List.mem_of_getElem? (i := 169) (by decide +kernel)) rfl
theorem jn_X10_deal : jj_N yX10_deal 0 := by unfold jj_N; decide +kernel
theorem jw_1edd1a1e0d : Cond.methodLink RL 155 yX11_deal ∈ jj_G := jj_t7 (List.mem_of_getElem? (i := 3) (by decide +kernel)) rfl
theorem jw_e10cc34f4c : Cond.instanceMethod yX11_deal ∈ jj_G := jj_t7 (List.mem_of_getElem? (i := 4) (by decide +kernel)) rfl
theorem jw_7e019ceded : Cond.selects RX11 yX11_deal yX11_deal ∈ jj_G := jj_t7 (List.mem_of_getElem? (i := 5) (by decide +kernel)) rfl
theorem jn_X11_deal : jj_N yX11_deal 0 := by unfold jj_N; decide +kernel
theorem jw_5d5c438784 : Cond.methodLink RL 156 yL_earn ∈ jj_G := jj_t5 (List.mem_of_getElem? (i := 90) (by decide +kernel)) rfl
theorem jw_9d8d3d7c17 : Cond.static yL_earn ∈ jj_G := jj_t5 (List.mem_of_getElem? (i := 91) (by decide +kernel)) rfl
theorem jn_L_earn : jj_N yL_earn 3 := by unfold jj_N; decide +kernel
theorem jw_46abf0a8ea : Cond.methodLink RL 158 yX11_earn ∈ jj_G := jj_t7 (List.mem_of_getElem? (i := 188) (by decide +kernel)) rfl
theorem jw_3f3a12e018 : Cond.instanceMethod yX11_earn ∈ jj_G := jj_t7 (List.mem_of_getElem? (i := 189) (by decide +kernel)) rfl
theorem jw_9a4dafb03f : Cond.selects RX11 yX11_earn yX11_earn ∈ jj_G := jj_t7 (List.mem_of_getElem? (i := 190) (by decide +kernel)) rfl
theorem jn_X11_earn : jj_N yX11_earn 1 := by unfold jj_N; decide +kernel
theorem jw_f16ac29bed : Cond.methodLink RL 159 yL_passDays ∈ jj_G := jj_t5 (List.mem_of_getElem? (i := 99) (by decide +kernel)) rfl
theorem jw_3cbb758e23 : Cond.static yL_passDays ∈ jj_G := jj_t5 (List.mem_of_getElem? (i := 100) (by decide +kernel)) rfl
theorem jn_L_passDays : jj_N yL_passDays 3 := by unfold jj_N; decide +kernel
theorem jw_93fcb04cf7 : Cond.methodLink RL 161 yX11_passDays ∈ jj_G := jj_t7 (List.mem_of_getElem? (i := 208) (by decide +kernel)) rfl
theorem jw_e33582801a : Cond.instanceMethod yX11_passDays ∈ jj_G := jj_t7 (List.mem_of_getElem? (i := 209) (by decide +kernel)) rfl
theorem jw_1d8f1b0c28 : Cond.selects RX11 yX11_passDays yX11_passDays ∈ jj_G := jj_t7 (List.mem_of_getElem? (i := 210) (by decide +kernel)) rfl
theorem jn_X11_passDays : jj_N yX11_passDays 1 := by unfold jj_N; decide +kernel
theorem jw_185c111699 : Cond.methodLink RL 162 yX10_crystallize ∈ jj_G := jj_t3 (List.mem_of_getElem? (i := 175) (by decide +kernel)) rfl
theorem jw_32ee2e130f : Cond.instanceMethod yX10_crystallize ∈ jj_G := jj_t3 (List.mem_of_getElem? (i := 176) (by decide +kernel)) rfl
theorem jw_ab3fee97b3 : Cond.selects RX10 yX10_crystallize yX10_crystallize ∈ jj_G := jj_t3 (List.mem_of_getElem? (i := 177) (by decide +kernel)) rfl
theorem jn_X10_crystallize : jj_N yX10_crystallize 0 := by unfold jj_N; decide +kernel
theorem jw_3f3e7be31e : Cond.methodLink RL 166 yX11_crystallize ∈ jj_G := jj_t7 (List.mem_of_getElem? (i := 218) (by decide +kernel)) rfl
theorem jw_b2362f64da : Cond.instanceMethod yX11_crystallize ∈ jj_G := jj_t7 (List.mem_of_getElem? (i := 219) (by decide +kernel)) rfl
theorem jw_3e7250d051 : Cond.selects RX11 yX11_crystallize yX11_crystallize ∈ jj_G := jj_t7 (List.mem_of_getElem? (i := 220) (by decide +kernel)) rfl
theorem jn_X11_crystallize : jj_N yX11_crystallize 0 := by unfold jj_N; decide +kernel
theorem jw_0926b9a925 : Cond.methodLink RL 167 yX10_merge ∈ jj_G := jj_t3 (List.mem_of_getElem? (i := 197) (by decide +kernel)) rfl
theorem jw_227b1410f0 : Cond.instanceMethod yX10_merge ∈ jj_G := jj_t3 (List.mem_of_getElem? (i := 198) (by decide +kernel)) rfl
theorem jw_762fddb565 : Cond.selects RX10 yX10_merge yX10_merge ∈ jj_G := jj_t3 (List.mem_of_getElem? (i := 199) (by decide +kernel)) rfl
theorem jn_X10_merge : jj_N yX10_merge 0 := by unfold jj_N; decide +kernel
theorem jw_14c3ec897a : Cond.methodLink RL 170 yX11_merge ∈ jj_G := jj_t8 (List.mem_of_getElem? (i := 2) (by decide +kernel)) rfl
theorem jw_b622d7ddfe : Cond.instanceMethod yX11_merge ∈ jj_G := jj_t8 (List.mem_of_getElem? (i := 3) (by decide +kernel)) rfl
theorem jw_c146e1b4dd : Cond.selects RX11 yX11_merge yX11_merge ∈ jj_G := jj_t8 (List.mem_of_getElem? (i := 4) (by decide +kernel)) rfl
theorem jn_X11_merge : jj_N yX11_merge 0 := by unfold jj_N; decide +kernel
theorem jw_955b4c0fa1 : Cond.methodLink RL 171 yL_transfer ∈ jj_G := jj_t5 (List.mem_of_getElem? (i := 108) (by decide +kernel)) rfl
theorem jw_34c0505c7f : Cond.static yL_transfer ∈ jj_G := jj_t5 (List.mem_of_getElem? (i := 109) (by decide +kernel)) rfl
theorem jn_L_transfer : jj_N yL_transfer 5 := by unfold jj_N; decide +kernel
theorem jw_510d8f3359 : Cond.methodLink RL 174 yX11_transfer ∈ jj_G := jj_t8 (List.mem_of_getElem? (i := 14) (by decide +kernel)) rfl
theorem jw_94ab88b694 : Cond.instanceMethod yX11_transfer ∈ jj_G := jj_t8 (List.mem_of_getElem? (i := 15) (by decide +kernel)) rfl
theorem jw_3457028440 : Cond.selects RX11 yX11_transfer yX11_transfer ∈ jj_G := jj_t8 (List.mem_of_getElem? (i := 16) (by decide +kernel)) rfl
theorem jn_X11_transfer : jj_N yX11_transfer 3 := by unfold jj_N; decide +kernel
theorem jw_1f0e30dec6 : Cond.methodLink RL 175 yL_setGate ∈ jj_G := jj_t5 (List.mem_of_getElem? (i := 134) (by decide +kernel)) rfl
theorem jw_0349953de1 : Cond.static yL_setGate ∈ jj_G := jj_t5 (List.mem_of_getElem? (i := 135) (by decide +kernel)) rfl
theorem jn_L_setGate : jj_N yL_setGate 3 := by unfold jj_N; decide +kernel
theorem jw_b30dec2d99 : Cond.methodLink RL 177 yX11_setGate ∈ jj_G := jj_t8 (List.mem_of_getElem? (i := 30) (by decide +kernel)) rfl
theorem jw_3eb373d030 : Cond.instanceMethod yX11_setGate ∈ jj_G := jj_t8 (List.mem_of_getElem? (i := 31) (by decide +kernel)) rfl
theorem jw_70a7587271 : Cond.selects RX11 yX11_setGate yX11_setGate ∈ jj_G := jj_t8 (List.mem_of_getElem? (i := 32) (by decide +kernel)) rfl
theorem jn_X11_setGate : jj_N yX11_setGate 1 := by unfold jj_N; decide +kernel
theorem jw_e29168d1e9 : Cond.methodLink RL 178 yX10_runScript ∈ jj_G := jj_t3 (List.mem_of_getElem? (i := 207) (by decide +kernel)) rfl
theorem jw_4b0906bb02 : Cond.instanceMethod yX10_runScript ∈ jj_G := jj_t3 (List.mem_of_getElem? (i := 208) (by decide +kernel)) rfl
theorem jw_7e0e248041 : Cond.selects RX10 yX10_runScript yX10_runScript ∈ jj_G := jj_t3 (List.mem_of_getElem? (i := 209) (by decide +kernel)) rfl
theorem jn_X10_runScript : jj_N yX10_runScript 0 := by unfold jj_N; decide +kernel
theorem jw_8870527085 : Cond.methodLink RL 181 yX11_runScript ∈ jj_G := jj_t8 (List.mem_of_getElem? (i := 111) (by decide +kernel)) rfl
theorem jw_bf73bb54e1 : Cond.instanceMethod yX11_runScript ∈ jj_G := jj_t8 (List.mem_of_getElem? (i := 112) (by decide +kernel)) rfl
theorem jw_c2d2aff190 : Cond.selects RX11 yX11_runScript yX11_runScript ∈ jj_G := jj_t8 (List.mem_of_getElem? (i := 113) (by decide +kernel)) rfl
theorem jn_X11_runScript : jj_N yX11_runScript 0 := by unfold jj_N; decide +kernel
theorem jw_2db85adf66 : Cond.methodLink RL 182 yL_count ∈ jj_G := jj_t5 (List.mem_of_getElem? (i := 142) (by decide +kernel)) rfl
theorem jw_49c9eaf352 : Cond.static yL_count ∈ jj_G := jj_t5 (List.mem_of_getElem? (i := 143) (by decide +kernel)) rfl
theorem jn_L_count : jj_N yL_count 3 := by unfold jj_N; decide +kernel
theorem jw_3d398c370b : Cond.methodLink RL 184 yX11_count ∈ jj_G := jj_t8 (List.mem_of_getElem? (i := 145) (by decide +kernel)) rfl
theorem jw_e192db6160 : Cond.instanceMethod yX11_count ∈ jj_G := jj_t8 (List.mem_of_getElem? (i := 146) (by decide +kernel)) rfl
theorem jw_c440fc4357 : Cond.selects RX11 yX11_count yX11_count ∈ jj_G := jj_t8 (List.mem_of_getElem? (i := 147) (by decide +kernel)) rfl
theorem jn_X11_count : jj_N yX11_count 1 := by unfold jj_N; decide +kernel
theorem jw_cde6465fcf : Cond.methodLink RL 185 yX10_netAssets ∈ jj_G := jj_t4 (List.mem_of_getElem? (i := 73) (by decide +kernel)) rfl
theorem jw_cd5eb1919c : Cond.instanceMethod yX10_netAssets ∈ jj_G := jj_t4 (List.mem_of_getElem? (i := 74) (by decide +kernel)) rfl
theorem jw_6caa6141fd : Cond.selects RX10 yX10_netAssets yX10_netAssets ∈ jj_G := jj_t4 (List.mem_of_getElem? (i := 75) (by decide +kernel)) rfl
theorem jn_X10_netAssets : jj_N yX10_netAssets 0 := by unfold jj_N; decide +kernel
theorem jw_882baae353 : Cond.methodLink RL 188 yX11_netAssets ∈ jj_G := jj_t8 (List.mem_of_getElem? (i := 150) (by decide +kernel)) rfl
theorem jw_0c4f5d14cc : Cond.instanceMethod yX11_netAssets ∈ jj_G := jj_t8 (List.mem_of_getElem? (i := 151) (by decide +kernel)) rfl
theorem jw_fba9930fab : Cond.selects RX11 yX11_netAssets yX11_netAssets ∈ jj_G := jj_t8 (List.mem_of_getElem? (i := 152) (by decide +kernel)) rfl
theorem jn_X11_netAssets : jj_N yX11_netAssets 0 := by unfold jj_N; decide +kernel
theorem jw_01a3e1dc18 : Cond.methodLink RL 189 yL_account ∈ jj_G := jj_t5 (List.mem_of_getElem? (i := 150) (by decide +kernel)) rfl
theorem jw_984971555c : Cond.static yL_account ∈ jj_G := jj_t5 (List.mem_of_getElem? (i := 151) (by decide +kernel)) rfl
theorem jn_L_account : jj_N yL_account 3 := by unfold jj_N; decide +kernel
theorem jw_6ef458da81 : Cond.methodLink RL 191 yX11_account ∈ jj_G := jj_t8 (List.mem_of_getElem? (i := 154) (by decide +kernel)) rfl
theorem jw_f0b19bc934 : Cond.instanceMethod yX11_account ∈ jj_G := jj_t8 (List.mem_of_getElem? (i := 155) (by decide +kernel)) rfl
theorem jw_974a4f3e86 : Cond.selects RX11 yX11_account yX11_account ∈ jj_G := jj_t8 (List.mem_of_getElem? (i := 156) (by decide +kernel)) rfl
theorem jn_X11_account : jj_N yX11_account 1 := by unfold jj_N; decide +kernel
theorem jw_ed9b06963f : Cond.methodLink RL 192 yL_openSeries ∈ jj_G := jj_t5 (List.mem_of_getElem? (i := 158) (by decide +kernel)) rfl
theorem jw_91a6d48e89 : Cond.static yL_openSeries ∈ jj_G := jj_t5 (List.mem_of_getElem? (i := 159) (by decide +kernel)) rfl
theorem jn_L_openSeries : jj_N yL_openSeries 3 := by unfold jj_N; decide +kernel
theorem jw_89552c3d75 : Cond.methodLink RL 194 yX11_openSeries ∈ jj_G := jj_t8 (List.mem_of_getElem? (i := 158) (by decide +kernel)) rfl
theorem jw_116fd4a935 : Cond.instanceMethod yX11_openSeries ∈ jj_G := jj_t8 (List.mem_of_getElem? (i := 159) (by decide +kernel)) rfl
theorem jw_81bfa8827a : Cond.selects RX11 yX11_openSeries yX11_openSeries ∈ jj_G := jj_t8 (List.mem_of_getElem? (i := 160) (by decide +kernel)) rfl
theorem jn_X11_openSeries : jj_N yX11_openSeries 1 := by unfold jj_N; decide +kernel
theorem jw_3d1279481a : Cond.methodLink RL 195 yL_seriesValue ∈ jj_G := jj_t5 (List.mem_of_getElem? (i := 166) (by decide +kernel)) rfl
theorem jw_913488080a : Cond.static yL_seriesValue ∈ jj_G := jj_t5 (List.mem_of_getElem? (i := 167) (by decide +kernel)) rfl
theorem jn_L_seriesValue : jj_N yL_seriesValue 4 := by unfold jj_N; decide +kernel
theorem jw_5a9d9496e0 : Cond.methodLink RL 197 yX11_seriesValue ∈ jj_G := jj_t8 (List.mem_of_getElem? (i := 162) (by decide +kernel)) rfl
theorem jw_d12790a0ea : Cond.instanceMethod yX11_seriesValue ∈ jj_G := jj_t8 (List.mem_of_getElem? (i := 163) (by decide +kernel)) rfl
theorem jw_7c1076a12f : Cond.selects RX11 yX11_seriesValue yX11_seriesValue ∈ jj_G := jj_t8 (List.mem_of_getElem? (i := 164) (by decide +kernel)) rfl
theorem jn_X11_seriesValue : jj_N yX11_seriesValue 2 := by unfold jj_N; decide +kernel
theorem jw_071dc3e98a : Cond.methodLink RL 198 yL_lot ∈ jj_G := jj_t5 (List.mem_of_getElem? (i := 186) (by decide +kernel)) rfl
theorem jw_26add7bf06 : Cond.static yL_lot ∈ jj_G := jj_t5 (List.mem_of_getElem? (i := 187) (by decide +kernel)) rfl
theorem jn_L_lot : jj_N yL_lot 4 := by unfold jj_N; decide +kernel
theorem jw_f7918e8a97 : Cond.methodLink RL 200 yX11_lot ∈ jj_G := jj_t8 (List.mem_of_getElem? (i := 171) (by decide +kernel)) rfl
theorem jw_e9f0d8d1c6 : Cond.instanceMethod yX11_lot ∈ jj_G := jj_t8 (List.mem_of_getElem? (i := 172) (by decide +kernel)) rfl
theorem jw_d008ddc488 : Cond.selects RX11 yX11_lot yX11_lot ∈ jj_G := jj_t8 (List.mem_of_getElem? (i := 173) (by decide +kernel)) rfl
theorem jn_X11_lot : jj_N yX11_lot 2 := by unfold jj_N; decide +kernel
theorem jw_1031eb085f : Cond.methodLink RL 201 yL_request ∈ jj_G := jj_t5 (List.mem_of_getElem? (i := 194) (by decide +kernel)) rfl
theorem jw_fb9a4a702d : Cond.static yL_request ∈ jj_G := jj_t5 (List.mem_of_getElem? (i := 195) (by decide +kernel)) rfl
theorem jn_L_request : jj_N yL_request 4 := by unfold jj_N; decide +kernel
theorem jw_3d381e84a3 : Cond.methodLink RL 203 yX11_request ∈ jj_G := jj_t8 (List.mem_of_getElem? (i := 175) (by decide +kernel)) rfl
theorem jw_60ac7aed83 : Cond.instanceMethod yX11_request ∈ jj_G := jj_t8 (List.mem_of_getElem? (i := 176) (by decide +kernel)) rfl
theorem jw_d64db4e3a6 : Cond.selects RX11 yX11_request yX11_request ∈ jj_G := jj_t8 (List.mem_of_getElem? (i := 177) (by decide +kernel)) rfl
theorem jn_X11_request : jj_N yX11_request 2 := by unfold jj_N; decide +kernel
theorem jw_061e93759a : Cond.methodLink RL 204 yL_unitsOf ∈ jj_G := jj_t5 (List.mem_of_getElem? (i := 201) (by decide +kernel)) rfl
theorem jw_7377bd8582 : Cond.static yL_unitsOf ∈ jj_G := jj_t5 (List.mem_of_getElem? (i := 202) (by decide +kernel)) rfl
theorem jn_L_unitsOf : jj_N yL_unitsOf 3 := by unfold jj_N; decide +kernel
theorem jw_c4e4375189 : Cond.methodLink RL 206 yX11_unitsOf ∈ jj_G := jj_t8 (List.mem_of_getElem? (i := 179) (by decide +kernel)) rfl
theorem jw_ed2085a7a3 : Cond.instanceMethod yX11_unitsOf ∈ jj_G := jj_t8 (List.mem_of_getElem? (i := 180) (by decide +kernel)) rfl
theorem jw_856b5aab26 : Cond.selects RX11 yX11_unitsOf yX11_unitsOf ∈ jj_G := jj_t8 (List.mem_of_getElem? (i := 181) (by decide +kernel)) rfl
theorem jn_X11_unitsOf : jj_N yX11_unitsOf 1 := by unfold jj_N; decide +kernel
theorem jw_a31b642584 : Cond.methodLink RL 207 yL_holding ∈ jj_G := jj_t5 (List.mem_of_getElem? (i := 213) (by decide +kernel)) rfl
theorem jw_01506bd7d1 : Cond.static yL_holding ∈ jj_G := jj_t5 (List.mem_of_getElem? (i := 214) (by decide +kernel)) rfl
theorem jn_L_holding : jj_N yL_holding 4 := by unfold jj_N; decide +kernel
theorem jw_33207a9c5e : Cond.methodLink RL 209 yX11_holding ∈ jj_G := jj_t8 (List.mem_of_getElem? (i := 183) (by decide +kernel)) rfl
theorem jw_b7d08457fe : Cond.instanceMethod yX11_holding ∈ jj_G := jj_t8 (List.mem_of_getElem? (i := 184) (by decide +kernel)) rfl
theorem jw_24eb30496e : Cond.selects RX11 yX11_holding yX11_holding ∈ jj_G := jj_t8 (List.mem_of_getElem? (i := 185) (by decide +kernel)) rfl
theorem jn_X11_holding : jj_N yX11_holding 2 := by unfold jj_N; decide +kernel
theorem jw_7be0a2aab0 : Cond.methodLink RL 210 yL_valueOf ∈ jj_G := jj_t5 (List.mem_of_getElem? (i := 221) (by decide +kernel)) rfl
theorem jw_87624359c7 : Cond.static yL_valueOf ∈ jj_G := jj_t5 (List.mem_of_getElem? (i := 222) (by decide +kernel)) rfl
theorem jn_L_valueOf : jj_N yL_valueOf 3 := by unfold jj_N; decide +kernel
theorem jw_30d61970b6 : Cond.methodLink RL 212 yX11_valueOf ∈ jj_G := jj_t8 (List.mem_of_getElem? (i := 191) (by decide +kernel)) rfl
theorem jw_509fd234e5 : Cond.instanceMethod yX11_valueOf ∈ jj_G := jj_t8 (List.mem_of_getElem? (i := 192) (by decide +kernel)) rfl
theorem jw_29019d3ce9 : Cond.selects RX11 yX11_valueOf yX11_valueOf ∈ jj_G := jj_t8 (List.mem_of_getElem? (i := 193) (by decide +kernel)) rfl
theorem jn_X11_valueOf : jj_N yX11_valueOf 1 := by unfold jj_N; decide +kernel
theorem jw_83120e33ee : Cond.methodLink RL 213 yL_richest ∈ jj_G := jj_t5 (List.mem_of_getElem? (i := 233) (by decide +kernel)) rfl
theorem jw_deab19783f : Cond.static yL_richest ∈ jj_G := jj_t5 (List.mem_of_getElem? (i := 234) (by decide +kernel)) rfl
theorem jn_L_richest : jj_N yL_richest 3 := by unfold jj_N; decide +kernel
theorem jw_f9d156bbae : Cond.methodLink RL 215 yX11_richest ∈ jj_G := jj_t8 (List.mem_of_getElem? (i := 199) (by decide +kernel)) rfl
theorem jw_18aa5915f6 : Cond.instanceMethod yX11_richest ∈ jj_G := jj_t8 (List.mem_of_getElem? (i := 200) (by decide +kernel)) rfl
theorem jw_588e556859 : Cond.selects RX11 yX11_richest yX11_richest ∈ jj_G := jj_t8 (List.mem_of_getElem? (i := 201) (by decide +kernel)) rfl
theorem jn_X11_richest : jj_N yX11_richest 1 := by unfold jj_N; decide +kernel
theorem jw_c280a20b6b : Cond.methodLink RL 216 yL_share ∈ jj_G := jj_t6 (List.mem_of_getElem? (i := 4) (by decide +kernel)) rfl
theorem jw_b7bbe7cd78 : Cond.static yL_share ∈ jj_G := jj_t6 (List.mem_of_getElem? (i := 5) (by decide +kernel)) rfl
theorem jn_L_share : jj_N yL_share 3 := by unfold jj_N; decide +kernel
theorem jw_d8b03f5fa6 : Cond.methodLink RL 219 yX11_share ∈ jj_G := jj_t8 (List.mem_of_getElem? (i := 203) (by decide +kernel)) rfl
theorem jw_27d824dfd9 : Cond.instanceMethod yX11_share ∈ jj_G := jj_t8 (List.mem_of_getElem? (i := 204) (by decide +kernel)) rfl
theorem jw_0f870368f4 : Cond.selects RX11 yX11_share yX11_share ∈ jj_G := jj_t8 (List.mem_of_getElem? (i := 205) (by decide +kernel)) rfl
theorem jn_X11_share : jj_N yX11_share 1 := by unfold jj_N; decide +kernel
theorem jw_2ebeb3e8b8 : Cond.methodLink RL 220 yX10_requestedValue ∈ jj_G := jj_t4 (List.mem_of_getElem? (i := 78) (by decide +kernel)) rfl
theorem jw_e1ae4dbb27 : Cond.instanceMethod yX10_requestedValue ∈ jj_G := jj_t4 (List.mem_of_getElem? (i := 79) (by decide +kernel)) rfl
theorem jw_f7ad888611 : Cond.selects RX10 yX10_requestedValue yX10_requestedValue ∈ jj_G := jj_t4 (List.mem_of_getElem? (i := 80) (by decide +kernel)) rfl
theorem jn_X10_requestedValue : jj_N yX10_requestedValue 0 := by unfold jj_N; decide +kernel
theorem jw_36e68a3f2b : Cond.methodLink RL 223 yX11_requestedValue ∈ jj_G := jj_t8 (List.mem_of_getElem? (i := 207) (by decide +kernel)) rfl
theorem jw_ad4a57c793 : Cond.instanceMethod yX11_requestedValue ∈ jj_G := jj_t8 (List.mem_of_getElem? (i := 208) (by decide +kernel)) rfl
theorem jw_6248614ffc : Cond.selects RX11 yX11_requestedValue yX11_requestedValue ∈ jj_G := jj_t8 (List.mem_of_getElem? (i := 209) (by decide +kernel)) rfl
theorem jn_X11_requestedValue : jj_N yX11_requestedValue 0 := by unfold jj_N; decide +kernel
theorem jw_82caccdee6 : Cond.methodLink RL 224 yX10_gateLimit ∈ jj_G := jj_t4 (List.mem_of_getElem? (i := 83) (by decide +kernel)) rfl
theorem jw_02075d6a91 : Cond.instanceMethod yX10_gateLimit ∈ jj_G := jj_t4 (List.mem_of_getElem? (i := 84) (by decide +kernel)) rfl
theorem jw_f3936275d4 : Cond.selects RX10 yX10_gateLimit yX10_gateLimit ∈ jj_G := jj_t4 (List.mem_of_getElem? (i := 85) (by decide +kernel)) rfl
theorem jn_X10_gateLimit : jj_N yX10_gateLimit 0 := by unfold jj_N; decide +kernel
theorem jw_9c52e4f619 : Cond.methodLink RL 227 yX11_gateLimit ∈ jj_G := jj_t8 (List.mem_of_getElem? (i := 211) (by decide +kernel)) rfl
theorem jw_d3f2c59de5 : Cond.instanceMethod yX11_gateLimit ∈ jj_G := jj_t8 (List.mem_of_getElem? (i := 212) (by decide +kernel)) rfl
theorem jw_b6b11bf407 : Cond.selects RX11 yX11_gateLimit yX11_gateLimit ∈ jj_G := jj_t8 (List.mem_of_getElem? (i := 213) (by decide +kernel)) rfl
theorem jn_X11_gateLimit : jj_N yX11_gateLimit 0 := by unfold jj_N; decide +kernel
theorem jw_8faf5d7cb6 : Cond.methodLink RL 228 yL_wouldRedeem ∈ jj_G := jj_t6 (List.mem_of_getElem? (i := 28) (by decide +kernel)) rfl
theorem jw_4a6761012f : Cond.static yL_wouldRedeem ∈ jj_G := jj_t6 (List.mem_of_getElem? (i := 29) (by decide +kernel)) rfl
theorem jn_L_wouldRedeem : jj_N yL_wouldRedeem 3 := by unfold jj_N; decide +kernel
theorem jw_b464524eb7 : Cond.methodLink RL 230 yX11_wouldRedeem ∈ jj_G := jj_t8 (List.mem_of_getElem? (i := 215) (by decide +kernel)) rfl
theorem jw_e1ec13eff9 : Cond.instanceMethod yX11_wouldRedeem ∈ jj_G := jj_t8 (List.mem_of_getElem? (i := 216) (by decide +kernel)) rfl
theorem jw_feb8a08ec4 : Cond.selects RX11 yX11_wouldRedeem yX11_wouldRedeem ∈ jj_G := jj_t8 (List.mem_of_getElem? (i := 217) (by decide +kernel)) rfl
theorem jn_X11_wouldRedeem : jj_N yX11_wouldRedeem 1 := by unfold jj_N; decide +kernel
theorem jw_6c8f960d0e : Cond.methodLink RL 231 yL_dealsUntilDone ∈ jj_G := jj_t6 (List.mem_of_getElem? (i := 36) (by decide +kernel)) rfl
theorem jw_f6b5d400f6 : Cond.static yL_dealsUntilDone ∈ jj_G := jj_t6 (List.mem_of_getElem? (i := 37) (by decide +kernel)) rfl
theorem jn_L_dealsUntilDone : jj_N yL_dealsUntilDone 3 := by unfold jj_N; decide +kernel
theorem jw_ce5c526ff8 : Cond.methodLink RL 233 yX11_dealsUntilDone ∈ jj_G := jj_t8 (List.mem_of_getElem? (i := 219) (by decide +kernel)) rfl
theorem jw_39cc3a5b05 : Cond.instanceMethod yX11_dealsUntilDone ∈ jj_G := jj_t8 (List.mem_of_getElem? (i := 220) (by decide +kernel)) rfl
theorem jw_66228c1ca3 : Cond.selects RX11 yX11_dealsUntilDone yX11_dealsUntilDone ∈ jj_G := jj_t8 (List.mem_of_getElem? (i := 221) (by decide +kernel)) rfl
theorem jn_X11_dealsUntilDone : jj_N yX11_dealsUntilDone 1 := by unfold jj_N; decide +kernel
theorem jw_dc7a8c0471 : Cond.methodLink RL 234 yL_feesIf ∈ jj_G := jj_t6 (List.mem_of_getElem? (i := 53) (by decide +kernel)) rfl
theorem jw_af9b408a86 : Cond.static yL_feesIf ∈ jj_G := jj_t6 (List.mem_of_getElem? (i := 54) (by decide +kernel)) rfl
theorem jn_L_feesIf : jj_N yL_feesIf 3 := by unfold jj_N; decide +kernel
theorem jw_5f78895486 : Cond.methodLink RL 236 yX11_feesIf ∈ jj_G := jj_t8 (List.mem_of_getElem? (i := 227) (by decide +kernel)) rfl
theorem jw_bcddac6a99 : Cond.instanceMethod yX11_feesIf ∈ jj_G := jj_t8 (List.mem_of_getElem? (i := 228) (by decide +kernel)) rfl
theorem jw_d6a629e1df : Cond.selects RX11 yX11_feesIf yX11_feesIf ∈ jj_G := jj_t8 (List.mem_of_getElem? (i := 229) (by decide +kernel)) rfl
theorem jn_X11_feesIf : jj_N yX11_feesIf 1 := by unfold jj_N; decide +kernel
theorem jw_7fdca35676 : Cond.methodLink RL 237 yL_breakEven ∈ jj_G := jj_t6 (List.mem_of_getElem? (i := 61) (by decide +kernel)) rfl
theorem jw_03900eca1a : Cond.static yL_breakEven ∈ jj_G := jj_t6 (List.mem_of_getElem? (i := 62) (by decide +kernel)) rfl
theorem jn_L_breakEven : jj_N yL_breakEven 3 := by unfold jj_N; decide +kernel
theorem jw_66f3150d7f : Cond.methodLink RL 239 yX11_breakEven ∈ jj_G := jj_t8 (List.mem_of_getElem? (i := 235) (by decide +kernel)) rfl
theorem jw_69c099d540 : Cond.instanceMethod yX11_breakEven ∈ jj_G := jj_t8 (List.mem_of_getElem? (i := 236) (by decide +kernel)) rfl
theorem jw_367bfa6b55 : Cond.selects RX11 yX11_breakEven yX11_breakEven ∈ jj_G := jj_t8 (List.mem_of_getElem? (i := 237) (by decide +kernel)) rfl
theorem jn_X11_breakEven : jj_N yX11_breakEven 1 := by unfold jj_N; decide +kernel
theorem jw_264b346af8 : Cond.constantLong RL 240 (4294967295) ∈ jj_G := jj_t9 (List.mem_of_getElem? (i := 55) (by decide +kernel)) rfl
theorem jw_38fc1c50fb : Cond.methodLink RL 242 yL_rateFor ∈ jj_G := jj_t6 (List.mem_of_getElem? (i := 90) (by decide +kernel)) rfl
theorem jw_d92648919b : Cond.static yL_rateFor ∈ jj_G := jj_t6 (List.mem_of_getElem? (i := 91) (by decide +kernel)) rfl
theorem jn_L_rateFor : jj_N yL_rateFor 4 := by unfold jj_N; decide +kernel
theorem jw_f9ae60a206 : Cond.methodLink RL 245 yX11_rateFor ∈ jj_G := jj_t8 (List.mem_of_getElem? (i := 239) (by decide +kernel)) rfl
theorem jw_963ec0158e : Cond.instanceMethod yX11_rateFor ∈ jj_G := jj_t9 (List.mem_of_getElem? (i := 0) (by decide +kernel)) rfl
theorem jw_1943962895 : Cond.selects RX11 yX11_rateFor yX11_rateFor ∈ jj_G := jj_t9 (List.mem_of_getElem? (i := 1) (by decide +kernel)) rfl
theorem jn_X11_rateFor : jj_N yX11_rateFor 2 := by unfold jj_N; decide +kernel
theorem jw_fd81b43c21 : Cond.methodLink RL 246 yL_daysUntil ∈ jj_G := jj_t6 (List.mem_of_getElem? (i := 113) (by decide +kernel)) rfl
theorem jw_d2c21e3b41 : Cond.static yL_daysUntil ∈ jj_G := jj_t6 (List.mem_of_getElem? (i := 114) (by decide +kernel)) rfl
theorem jn_L_daysUntil : jj_N yL_daysUntil 3 := by unfold jj_N; decide +kernel
theorem jw_ab701ae4ad : Cond.methodLink RL 249 yX11_daysUntil ∈ jj_G := jj_t9 (List.mem_of_getElem? (i := 11) (by decide +kernel)) rfl
theorem jw_d17d175570 : Cond.instanceMethod yX11_daysUntil ∈ jj_G := jj_t9 (List.mem_of_getElem? (i := 12) (by decide +kernel)) rfl
theorem jw_71156941d5 : Cond.selects RX11 yX11_daysUntil yX11_daysUntil ∈ jj_G := jj_t9 (List.mem_of_getElem? (i := 13) (by decide +kernel)) rfl
theorem jn_X11_daysUntil : jj_N yX11_daysUntil 1 := by unfold jj_N; decide +kernel
theorem jw_8be096973f : Cond.methodLink RL 250 yX10_wouldCrystallize ∈ jj_G := jj_t4 (List.mem_of_getElem? (i := 88) (by decide +kernel)) rfl
theorem jw_1718ffbea2 : Cond.instanceMethod yX10_wouldCrystallize ∈ jj_G := jj_t4 (List.mem_of_getElem? (i := 89) (by decide +kernel)) rfl
theorem jw_a5fd1cb0d0 : Cond.selects RX10 yX10_wouldCrystallize yX10_wouldCrystallize ∈ jj_G := jj_t4 (List.mem_of_getElem? (i := 90) (by decide +kernel)) rfl
theorem jn_X10_wouldCrystallize : jj_N yX10_wouldCrystallize 0 := by unfold jj_N; decide +kernel
theorem jw_488a4d9b4f : Cond.methodLink RL 253 yX11_wouldCrystallize ∈ jj_G := jj_t9 (List.mem_of_getElem? (i := 15) (by decide +kernel)) rfl
theorem jw_cec654646a : Cond.instanceMethod yX11_wouldCrystallize ∈ jj_G := jj_t9 (List.mem_of_getElem? (i := 16) (by decide +kernel)) rfl
theorem jw_61a564ec70 : Cond.selects RX11 yX11_wouldCrystallize yX11_wouldCrystallize ∈ jj_G := jj_t9 (List.mem_of_getElem? (i := 17) (by decide +kernel)) rfl
theorem jn_X11_wouldCrystallize : jj_N yX11_wouldCrystallize 0 := by unfold jj_N; decide +kernel
theorem jw_4e6f5c9c36 : Cond.methodLink RL 254 yX10_wouldMerge ∈ jj_G := jj_t4 (List.mem_of_getElem? (i := 92) (by decide +kernel)) rfl
theorem jw_446f5b1bea : Cond.instanceMethod yX10_wouldMerge ∈ jj_G := jj_t4 (List.mem_of_getElem? (i := 93) (by decide +kernel)) rfl
theorem jw_c7976e3130 : Cond.selects RX10 yX10_wouldMerge yX10_wouldMerge ∈ jj_G := jj_t4 (List.mem_of_getElem? (i := 94) (by decide +kernel)) rfl
theorem jn_X10_wouldMerge : jj_N yX10_wouldMerge 0 := by unfold jj_N; decide +kernel
theorem jw_02746ee920 : Cond.methodLink RL 257 yX11_wouldMerge ∈ jj_G := jj_t9 (List.mem_of_getElem? (i := 19) (by decide +kernel)) rfl
theorem jw_a9aeaaf495 : Cond.instanceMethod yX11_wouldMerge ∈ jj_G := jj_t9 (List.mem_of_getElem? (i := 20) (by decide +kernel)) rfl
theorem jw_53c89e2fa1 : Cond.selects RX11 yX11_wouldMerge yX11_wouldMerge ∈ jj_G := jj_t9 (List.mem_of_getElem? (i := 21) (by decide +kernel)) rfl
theorem jn_X11_wouldMerge : jj_N yX11_wouldMerge 0 := by unfold jj_N; decide +kernel
theorem jw_40bb64758c : Cond.methodLink RL 258 yL_bestGate ∈ jj_G := jj_t6 (List.mem_of_getElem? (i := 121) (by decide +kernel)) rfl
theorem jw_0e85c18dbb : Cond.static yL_bestGate ∈ jj_G := jj_t6 (List.mem_of_getElem? (i := 122) (by decide +kernel)) rfl
theorem jn_L_bestGate : jj_N yL_bestGate 3 := by unfold jj_N; decide +kernel
theorem jw_9fb46188ff : Cond.methodLink RL 260 yX11_bestGate ∈ jj_G := jj_t9 (List.mem_of_getElem? (i := 23) (by decide +kernel)) rfl
theorem jw_87892753a1 : Cond.instanceMethod yX11_bestGate ∈ jj_G := jj_t9 (List.mem_of_getElem? (i := 24) (by decide +kernel)) rfl
theorem jw_c88e779998 : Cond.selects RX11 yX11_bestGate yX11_bestGate ∈ jj_G := jj_t9 (List.mem_of_getElem? (i := 25) (by decide +kernel)) rfl
theorem jn_X11_bestGate : jj_N yX11_bestGate 1 := by unfold jj_N; decide +kernel
theorem jw_5af04a665c : Cond.methodLink RL 261 yX10_writeReport ∈ jj_G := jj_t4 (List.mem_of_getElem? (i := 96) (by decide +kernel)) rfl
theorem jw_80f21873a0 : Cond.instanceMethod yX10_writeReport ∈ jj_G := jj_t4 (List.mem_of_getElem? (i := 97) (by decide +kernel)) rfl
theorem jw_a7cd39c0ed : Cond.selects RX10 yX10_writeReport yX10_writeReport ∈ jj_G := jj_t4 (List.mem_of_getElem? (i := 98) (by decide +kernel)) rfl
theorem jn_X10_writeReport : jj_N yX10_writeReport 0 := by unfold jj_N; decide +kernel
theorem jw_0f183e976b : Cond.methodLink RL 264 yX11_writeReport ∈ jj_G := jj_t9 (List.mem_of_getElem? (i := 27) (by decide +kernel)) rfl
theorem jw_fd080e9f0a : Cond.instanceMethod yX11_writeReport ∈ jj_G := jj_t9 (List.mem_of_getElem? (i := 28) (by decide +kernel)) rfl
theorem jw_614a7cae4d : Cond.selects RX11 yX11_writeReport yX11_writeReport ∈ jj_G := jj_t9 (List.mem_of_getElem? (i := 29) (by decide +kernel)) rfl
theorem jn_X11_writeReport : jj_N yX11_writeReport 0 := by unfold jj_N; decide +kernel
theorem jw_e05620899d : Cond.methodLink RL 265 yL_reportByte ∈ jj_G := jj_t6 (List.mem_of_getElem? (i := 128) (by decide +kernel)) rfl
theorem jw_2bb2b37bc1 : Cond.static yL_reportByte ∈ jj_G := jj_t6 (List.mem_of_getElem? (i := 129) (by decide +kernel)) rfl
theorem jn_L_reportByte : jj_N yL_reportByte 3 := by unfold jj_N; decide +kernel
theorem jw_574add0925 : Cond.methodLink RL 267 yX11_reportByte ∈ jj_G := jj_t9 (List.mem_of_getElem? (i := 51) (by decide +kernel)) rfl
theorem jw_dea8ede4b9 : Cond.instanceMethod yX11_reportByte ∈ jj_G := jj_t9 (List.mem_of_getElem? (i := 52) (by decide +kernel)) rfl
theorem jw_7bc7d015e3 : Cond.selects RX11 yX11_reportByte yX11_reportByte ∈ jj_G := jj_t9 (List.mem_of_getElem? (i := 53) (by decide +kernel)) rfl
theorem jn_X11_reportByte : jj_N yX11_reportByte 1 := by unfold jj_N; decide +kernel
theorem jw_de00c32632 : Cond.methodLink RL 268 yL_undo ∈ jj_G := jj_t6 (List.mem_of_getElem? (i := 136) (by decide +kernel)) rfl
theorem jw_19fee9ab6f : Cond.static yL_undo ∈ jj_G := jj_t6 (List.mem_of_getElem? (i := 137) (by decide +kernel)) rfl
theorem jn_L_undo : jj_N yL_undo 2 := by unfold jj_N; decide +kernel
theorem jw_9b350b061e : Cond.methodLink RL 271 yX11_undo ∈ jj_G := jj_t6 (List.mem_of_getElem? (i := 231) (by decide +kernel)) rfl
theorem jw_a466103aa4 : Cond.instanceMethod yX11_undo ∈ jj_G := jj_t6 (List.mem_of_getElem? (i := 232) (by decide +kernel)) rfl
theorem jw_586c5d772b : Cond.selects RX11 yX11_undo yX11_undo ∈ jj_G := jj_t6 (List.mem_of_getElem? (i := 233) (by decide +kernel)) rfl
theorem jn_X11_undo : jj_N yX11_undo 0 := by unfold jj_N; decide +kernel
theorem jw_b5a7d28990 : Cond.methodLink RL 272 yX10_undoDepth ∈ jj_G := jj_t4 (List.mem_of_getElem? (i := 145) (by decide +kernel)) rfl
theorem jw_dd5f3aff05 : Cond.instanceMethod yX10_undoDepth ∈ jj_G := jj_t4 (List.mem_of_getElem? (i := 146) (by decide +kernel)) rfl
theorem jw_de4cf37e4a : Cond.selects RX10 yX10_undoDepth yX10_undoDepth ∈ jj_G := jj_t4 (List.mem_of_getElem? (i := 147) (by decide +kernel)) rfl
theorem jn_X10_undoDepth : jj_N yX10_undoDepth 0 := by unfold jj_N; decide +kernel
theorem jw_2cf8e7ba8f : Cond.methodLink RL 275 yX11_undoDepth ∈ jj_G := jj_t6 (List.mem_of_getElem? (i := 239) (by decide +kernel)) rfl
theorem jw_9898c1fa7b : Cond.instanceMethod yX11_undoDepth ∈ jj_G := jj_t7 (List.mem_of_getElem? (i := 0) (by decide +kernel)) rfl
theorem jw_9dffb0f67e : Cond.selects RX11 yX11_undoDepth yX11_undoDepth ∈ jj_G := jj_t7 (List.mem_of_getElem? (i := 1) (by decide +kernel)) rfl
theorem jn_X11_undoDepth : jj_N yX11_undoDepth 0 := by unfold jj_N; decide +kernel

set_option maxHeartbeats 4000000 in
set_option maxRecDepth 100000 in
theorem law_c0 {p : Program} {l : Launch} {e : Env} {s : State} {m : MethodId} {below : List Frame} {meth : Method} {c : Code} (hl : l.stackTraces = false) {D : va_G} {cA : Nat → ClassId} {ak : (Nat → Nat) × (Nat → Nat)} {A : Nat → Prop} {b L : Nat} {xs : Nat → Int32} {Q : State → Prop} (C : jj_C p l s m #[Value.ref b] meth c code 9 R_law ret D cA A ak) (hX : va_X b L xs s s.heap) (hbl : b < s.heap.size) (hbA : ¬ A b) (hL : L ≤ 3072) {n h0 h1 ho hd : Nat} (hn : 6 * n + 6 ≤ L) (hb : ∀ (g : Nat → Int64) (gd : Nat → UInt64) (x : Nat) (cz : Nat → Int) (e1 : Nat) (e2 : Int32) (pR pC : va_W), x ≤ 400 → rw_C cA h0 x cz e1 e2 pC → rw_R cA (n + 1) h1 x cz e1 e2 pR → jj_J p l e room_1 s m #[Value.ref b] below meth c 9 A Q (jj_X D A (((ho, .inl (cA 2, 1, .inr (.inl g))) :: (hd, .inl (cA 4, 1, .inr (.inr (.inr (.inl gd))))) :: pR) ++ pC)) (200 + 64 * (n + 1)) (20000 + 414 * (n + 1)) 1435 [(0, .ref b), (1, .ref h0), (2, .ref h1), (3, .ref ho), (4, .ref hd), (5, .int (nI (6 * n)))] []) (g : Nat → Int64) (gd : Nat → UInt64) (x : Nat) (cz : Nat → Int) (e1 : Nat) (e2 : Int32) (pR pC : va_W) (hx : x ≤ 400) (hC : rw_C cA h0 x cz e1 e2 pC) (hR : rw_R cA n h1 x cz e1 e2 pR) : jj_J p l e room_1 s m #[Value.ref b] below meth c 9 A Q (jj_X D A (((ho, .inl (cA 2, 1, .inr (.inl g))) :: (hd, .inl (cA 4, 1, .inr (.inr (.inr (.inl gd))))) :: pR) ++ pC)) (200 + 64 * n) (20000 + 414 * n) 232 [(0, .ref b), (1, .ref h0), (2, .ref h1), (3, .ref ho), (4, .ref hd), (5, .int (nI (6 * n)))] [] := by
  have hxi : (nI x).toInt = (x : Int) := rl_ti (by omega)
  obtain ⟨K, a0, a9, u, k1, k2, k9, ok, f1, f0, f2, hu, hcu, fe1, fe2⟩ := hC
  refine jj_aload_n C dL_law_232 rfl ?_
  refine jj_aload_n C dL_law_233 rfl ?_
  refine jj_iload C dL_law_234 rfl ?_
  refine jj_iconst (v := 1) C dL_law_236 (by decide) ?_
  refine jj_iadd (v := nI (6 * n + 1)) C dL_law_237 (rl_addR (kn := 1) (by decide) rfl) ?_
  refine jj_xld C hX hbl hbA (k := 6 * n + 1) (by omega) hL dL_law_238 ?_
  refine jj_aload_n C dL_law_239 rfl ?_
  refine jj_iload C dL_law_240 rfl ?_
  refine jj_iconst (v := 2) C dL_law_242 (by decide) ?_
  refine jj_iadd (v := nI (6 * n + 2)) C dL_law_243 (rl_addR (kn := 2) (by decide) rfl) ?_
  refine jj_xld C hX hbl hbA (k := 6 * n + 2) (by omega) hL dL_law_244 ?_
  refine jj_aload_n C dL_law_245 rfl ?_
  refine jj_iload C dL_law_246 rfl ?_
  refine jj_iconst (v := 3) C dL_law_248 (by decide) ?_
  refine jj_iadd (v := nI (6 * n + 3)) C dL_law_249 (rl_addR (kn := 3) (by decide) rfl) ?_
  refine jj_xld C hX hbl hbA (k := 6 * n + 3) (by omega) hL dL_law_250 ?_
  refine jj_aload_n C dL_law_251 rfl ?_
  refine jj_iload C dL_law_252 rfl ?_
  refine jj_iconst (v := 4) C dL_law_254 (by decide) ?_
  refine jj_iadd (v := nI (6 * n + 4)) C dL_law_255 (rl_addR (kn := 4) (by decide) rfl) ?_
  refine jj_xld C hX hbl hbA (k := 6 * n + 4) (by omega) hL dL_law_256 ?_
  refine jj_aload_n C dL_law_257 rfl ?_
  refine jj_iload C dL_law_258 rfl ?_
  refine jj_iconst (v := 5) C dL_law_260 (by decide) ?_
  refine jj_iadd (v := nI (6 * n + 5)) C dL_law_261 (rl_addR (kn := 5) (by decide) rfl) ?_
  refine jj_xld C hX hbl hbA (k := 6 * n + 5) (by omega) hL dL_law_262 ?_
  refine jj_aload_n C dL_law_263 rfl ?_
  refine tt_callSW (rest := []) C (lm_appendText hl D cA ak h0 ho a0 a9 (xs (6 * n + 1)) (xs (6 * n + 2)) (xs (6 * n + 3)) (xs (6 * n + 4)) (xs (6 * n + 5)) x u g k1 k2 k9 hx ok f1 f0 f2 hu) [0] _ rfl (rz_pk1 _ _) (by decide) (rz_ndd _ _) rz_dis1 jw_de18ee3bed jw_90baff392d jw_2ec6af59de jw_eb7816363b jn_L_appendText rfl (jj_le rfl) (jj_le rfl) (by show (200 + 64 * n) + 1 ≤ 603072; omega) (by show (20000 + 414 * n) + 6 ≤ 7211114; omega) (jj_le rfl) dL_law_264 rfl (fun _ _ _ hX => hX.elim) (fun rx pl r O => ?_)
  obtain ⟨ok1, fr1, fa1, ⟨cq, fA, ⟨v9, hv9, hkp9, hpy9⟩, rfl, rfl⟩ | ⟨cq, fA, hv9, rfl, rfl⟩⟩ := O
  · refine tt_rot ?_
    have hC1 : rw_C cA h0 (20 + x) (fun k => (v9 k).toInt) e1 e2 pl := ⟨K, a0, a9, _, (tt_ex.refl _).kd k1 (by decide), (tt_ex.refl _).kd k2 (by decide), (tt_ex.refl _).kd k9 (by decide), ok1, (fr1.at k1 (by decide) (by decide) f1), (fr1.at k2 (by decide) (by decide) f0), fA, hv9, (fun k hk => rfl), (fr1.at k1 (by decide) (by decide) fe1), (fr1.at k1 (by decide) (by decide) fe2)⟩
    refine jj_istore C dL_law_267 (by decide) rfl ?_
    refine jj_aload_n C dL_law_269 rfl ?_
    refine jj_aload_n C dL_law_270 rfl ?_
    refine jj_iload C dL_law_271 rfl ?_
    refine jj_iconst (v := 1) C dL_law_273 (by decide) ?_
    refine jj_iadd (v := nI (6 * n + 1)) C dL_law_274 (rl_addR (kn := 1) (by decide) rfl) ?_
    refine jj_xld C hX hbl hbA (k := 6 * n + 1) (by omega) hL dL_law_275 ?_
    refine jj_aload_n C dL_law_276 rfl ?_
    refine jj_iload C dL_law_277 rfl ?_
    refine jj_iconst (v := 2) C dL_law_279 (by decide) ?_
    refine jj_iadd (v := nI (6 * n + 2)) C dL_law_280 (rl_addR (kn := 2) (by decide) rfl) ?_
    refine jj_xld C hX hbl hbA (k := 6 * n + 2) (by omega) hL dL_law_281 ?_
    refine jj_aload_n C dL_law_282 rfl ?_
    refine jj_iload C dL_law_283 rfl ?_
    refine jj_iconst (v := 3) C dL_law_285 (by decide) ?_
    refine jj_iadd (v := nI (6 * n + 3)) C dL_law_286 (rl_addR (kn := 3) (by decide) rfl) ?_
    refine jj_xld C hX hbl hbA (k := 6 * n + 3) (by omega) hL dL_law_287 ?_
    refine jj_aload_n C dL_law_288 rfl ?_
    refine jj_iload C dL_law_289 rfl ?_
    refine jj_iconst (v := 4) C dL_law_291 (by decide) ?_
    refine jj_iadd (v := nI (6 * n + 4)) C dL_law_292 (rl_addR (kn := 4) (by decide) rfl) ?_
    refine jj_xld C hX hbl hbA (k := 6 * n + 4) (by omega) hL dL_law_293 ?_
    refine jj_aload_n C dL_law_294 rfl ?_
    refine jj_iload C dL_law_295 rfl ?_
    refine jj_iconst (v := 5) C dL_law_297 (by decide) ?_
    refine jj_iadd (v := nI (6 * n + 5)) C dL_law_298 (rl_addR (kn := 5) (by decide) rfl) ?_
    refine jj_xld C hX hbl hbA (k := 6 * n + 5) (by omega) hL dL_law_299 ?_
    obtain ⟨K2, aw, aa, at1, ai, af, ap, b9, B, um, hk, hk9, ok2, hm, h12, h13, hum, hcm, h17, h18, he3, hM, hB0, hBF⟩ := hR
    obtain ⟨f, P, n6, hc, hcp, h6, un6, hKK, hHP⟩ := hM
    refine tt_pools ?_
    obtain ⟨qd, gt, hqd⟩ := tt_recv (cx := []) ok2 hk.1 (by decide) rfl
    refine tt_callV (rest := []) C (re_appendText hl D cA ak x b9 um (xs (6 * n + 1)) (xs (6 * n + 2)) (xs (6 * n + 3)) (xs (6 * n + 4)) (xs (6 * n + 5)) hk.1 hk.2.1 hk.2.2.1 hk.2.2.2.1 hk.2.2.2.2.1 hk.2.2.2.2.2.1 hk.2.2.2.2.2.2 (by omega) (by omega) hk9 ok2 hm h12 hum h13) [] _ rfl (rz_pkr _) (by decide) (rz_ndr _) rz_dis0 qd hqd rfl rfl jw_582af37e62 jw_0d068eb0d6 jw_94a02cd724 jw_f96c99f44d jw_650770dc87 jn_X11_appendText rfl (jj_le rfl) (jj_le rfl) (by show (200 + 64 * n) + 1 + 0 ≤ 603072; omega) (by show (20000 + 414 * n) + 6 + 0 ≤ 7211114; omega) (jj_le rfl) dL_law_300 rfl (fun _ _ _ hX => hX.elim) (fun rx pm1 r O => ?_)
    obtain ⟨rfl, ok1, hf1, ha1, O⟩ := O
    refine tt_nilr ?_
    refine tt_pools ?_
    have hm_2 := hm.fr hf1 hk.1 (by decide)
    rcases O with ⟨a1, s7, s13, ⟨w9, hw9, hkq9, hpz9⟩, rfl⟩ | ⟨a1, s7, s13, hw9, rfl⟩
    · have hM9 : rl_M B (5000 * (n : Int)) pm1 h1 aw ap := (rl_M.fr ⟨f, P, n6, hc, hcp, h6, un6, hKK, hHP⟩ hf1 ha1 hk.1 hk.2.1 hk.2.2.2.2.2.2 (by decide) (by decide) (by decide))
      have hcm9 := te_app hcu hcm hkp9 hkq9 hpy9 hpz9
      refine jj_istore C dL_law_303 (by decide) rfl ?_
      refine jj_goto (tgt := 1435) C dL_law_305 (by decide) ?_
      have hR9 : rw_R cA (n + 1) h1 (20 + x) (fun k => (v9 k).toInt) e1 e2 pm1 := ⟨K2, aw, aa, at1, ai, af, ap, b9, _, _, hk, hk9, ok1, hm_2, (hf1.at hk.1 (by decide) (by decide) h12), s13, hw9, hcm9, (hf1.at hk.1 (by decide) (by decide) h17), (hf1.at hk.1 (by decide) (by decide) h18), he3, hM9.mono (Int.le_refl _) (by omega), (by omega), (by omega)⟩
      exact jj_loc [2, 3, 4, 5, 6, 7] rfl (jj_widen (by omega) (by omega) (hb (vp_updL g 0 (nI (20 + x)).toInt64) gd (20 + x) (fun k => (v9 k).toInt) e1 e2 pm1 pl (by omega) hC1 hR9))
    · exfalso; omega
  · refine tt_rot ?_
    have hC1 : rw_C cA h0 x cz e1 e2 pl := ⟨K, a0, a9, _, (tt_ex.refl _).kd k1 (by decide), (tt_ex.refl _).kd k2 (by decide), (tt_ex.refl _).kd k9 (by decide), ok1, (fr1.at k1 (by decide) (by decide) f1), (fr1.at k2 (by decide) (by decide) f0), fA, hv9, hcu, (fr1.at k1 (by decide) (by decide) fe1), (fr1.at k1 (by decide) (by decide) fe2)⟩
    refine jj_istore C dL_law_267 (by decide) rfl ?_
    refine jj_aload_n C dL_law_269 rfl ?_
    refine jj_aload_n C dL_law_270 rfl ?_
    refine jj_iload C dL_law_271 rfl ?_
    refine jj_iconst (v := 1) C dL_law_273 (by decide) ?_
    refine jj_iadd (v := nI (6 * n + 1)) C dL_law_274 (rl_addR (kn := 1) (by decide) rfl) ?_
    refine jj_xld C hX hbl hbA (k := 6 * n + 1) (by omega) hL dL_law_275 ?_
    refine jj_aload_n C dL_law_276 rfl ?_
    refine jj_iload C dL_law_277 rfl ?_
    refine jj_iconst (v := 2) C dL_law_279 (by decide) ?_
    refine jj_iadd (v := nI (6 * n + 2)) C dL_law_280 (rl_addR (kn := 2) (by decide) rfl) ?_
    refine jj_xld C hX hbl hbA (k := 6 * n + 2) (by omega) hL dL_law_281 ?_
    refine jj_aload_n C dL_law_282 rfl ?_
    refine jj_iload C dL_law_283 rfl ?_
    refine jj_iconst (v := 3) C dL_law_285 (by decide) ?_
    refine jj_iadd (v := nI (6 * n + 3)) C dL_law_286 (rl_addR (kn := 3) (by decide) rfl) ?_
    refine jj_xld C hX hbl hbA (k := 6 * n + 3) (by omega) hL dL_law_287 ?_
    refine jj_aload_n C dL_law_288 rfl ?_
    refine jj_iload C dL_law_289 rfl ?_
    refine jj_iconst (v := 4) C dL_law_291 (by decide) ?_
    refine jj_iadd (v := nI (6 * n + 4)) C dL_law_292 (rl_addR (kn := 4) (by decide) rfl) ?_
    refine jj_xld C hX hbl hbA (k := 6 * n + 4) (by omega) hL dL_law_293 ?_
    refine jj_aload_n C dL_law_294 rfl ?_
    refine jj_iload C dL_law_295 rfl ?_
    refine jj_iconst (v := 5) C dL_law_297 (by decide) ?_
    refine jj_iadd (v := nI (6 * n + 5)) C dL_law_298 (rl_addR (kn := 5) (by decide) rfl) ?_
    refine jj_xld C hX hbl hbA (k := 6 * n + 5) (by omega) hL dL_law_299 ?_
    obtain ⟨K2, aw, aa, at1, ai, af, ap, b9, B, um, hk, hk9, ok2, hm, h12, h13, hum, hcm, h17, h18, he3, hM, hB0, hBF⟩ := hR
    obtain ⟨f, P, n6, hc, hcp, h6, un6, hKK, hHP⟩ := hM
    refine tt_pools ?_
    obtain ⟨qd, gt, hqd⟩ := tt_recv (cx := []) ok2 hk.1 (by decide) rfl
    refine tt_callV (rest := []) C (re_appendText hl D cA ak x b9 um (xs (6 * n + 1)) (xs (6 * n + 2)) (xs (6 * n + 3)) (xs (6 * n + 4)) (xs (6 * n + 5)) hk.1 hk.2.1 hk.2.2.1 hk.2.2.2.1 hk.2.2.2.2.1 hk.2.2.2.2.2.1 hk.2.2.2.2.2.2 (by omega) (by omega) hk9 ok2 hm h12 hum h13) [] _ rfl (rz_pkr _) (by decide) (rz_ndr _) rz_dis0 qd hqd rfl rfl jw_582af37e62 jw_0d068eb0d6 jw_94a02cd724 jw_f96c99f44d jw_650770dc87 jn_X11_appendText rfl (jj_le rfl) (jj_le rfl) (by show (200 + 64 * n) + 1 + 0 ≤ 603072; omega) (by show (20000 + 414 * n) + 6 + 0 ≤ 7211114; omega) (jj_le rfl) dL_law_300 rfl (fun _ _ _ hX => hX.elim) (fun rx pm3 r O => ?_)
    obtain ⟨rfl, ok3, hf3, ha3, O⟩ := O
    refine tt_nilr ?_
    refine tt_pools ?_
    have hm_4 := hm.fr hf3 hk.1 (by decide)
    rcases O with ⟨a1, s7, s13, ⟨w9, hw9, hkq9, hpz9⟩, rfl⟩ | ⟨a1, s7, s13, hw9, rfl⟩
    · exfalso; omega
    · have hM9 : rl_M B (5000 * (n : Int)) pm3 h1 aw ap := (rl_M.fr ⟨f, P, n6, hc, hcp, h6, un6, hKK, hHP⟩ hf3 ha3 hk.1 hk.2.1 hk.2.2.2.2.2.2 (by decide) (by decide) (by decide))
      refine jj_istore C dL_law_303 (by decide) rfl ?_
      refine jj_goto (tgt := 1435) C dL_law_305 (by decide) ?_
      have hR9 : rw_R cA (n + 1) h1 x cz e1 e2 pm3 := ⟨K2, aw, aa, at1, ai, af, ap, b9, _, _, hk, hk9, ok3, hm_4, (hf3.at hk.1 (by decide) (by decide) h12), s13, hw9, hcm, (hf3.at hk.1 (by decide) (by decide) h17), (hf3.at hk.1 (by decide) (by decide) h18), he3, hM9.mono (Int.le_refl _) (by omega), (by omega), (by omega)⟩
      exact jj_loc [2, 3, 4, 5, 6, 7] rfl (jj_widen (by omega) (by omega) (hb g gd x cz e1 e2 pm3 pl hx hC1 hR9))

set_option maxHeartbeats 4000000 in
set_option maxRecDepth 100000 in
theorem law_c1 {p : Program} {l : Launch} {e : Env} {s : State} {m : MethodId} {below : List Frame} {meth : Method} {c : Code} (hl : l.stackTraces = false) {D : va_G} {cA : Nat → ClassId} {ak : (Nat → Nat) × (Nat → Nat)} {A : Nat → Prop} {b L : Nat} {xs : Nat → Int32} {Q : State → Prop} (C : jj_C p l s m #[Value.ref b] meth c code 9 R_law ret D cA A ak) (hX : va_X b L xs s s.heap) (hbl : b < s.heap.size) (hbA : ¬ A b) (hL : L ≤ 3072) {n h0 h1 ho hd : Nat} (hn : 6 * n + 6 ≤ L) (hb : ∀ (g : Nat → Int64) (gd : Nat → UInt64) (x : Nat) (cz : Nat → Int) (e1 : Nat) (e2 : Int32) (pR pC : va_W), x ≤ 400 → rw_C cA h0 x cz e1 e2 pC → rw_R cA (n + 1) h1 x cz e1 e2 pR → jj_J p l e room_1 s m #[Value.ref b] below meth c 9 A Q (jj_X D A (((ho, .inl (cA 2, 1, .inr (.inl g))) :: (hd, .inl (cA 4, 1, .inr (.inr (.inr (.inl gd))))) :: pR) ++ pC)) (200 + 64 * (n + 1)) (20000 + 414 * (n + 1)) 1435 [(0, .ref b), (1, .ref h0), (2, .ref h1), (3, .ref ho), (4, .ref hd), (5, .int (nI (6 * n)))] []) (g : Nat → Int64) (gd : Nat → UInt64) (x : Nat) (cz : Nat → Int) (e1 : Nat) (e2 : Int32) (pR pC : va_W) (hx : x ≤ 400) (hC : rw_C cA h0 x cz e1 e2 pC) (hR : rw_R cA n h1 x cz e1 e2 pR) : jj_J p l e room_1 s m #[Value.ref b] below meth c 9 A Q (jj_X D A (((ho, .inl (cA 2, 1, .inr (.inl g))) :: (hd, .inl (cA 4, 1, .inr (.inr (.inr (.inl gd))))) :: pR) ++ pC)) (200 + 64 * n) (20000 + 414 * n) 308 [(0, .ref b), (1, .ref h0), (2, .ref h1), (3, .ref ho), (4, .ref hd), (5, .int (nI (6 * n)))] [] := by
  have hxi : (nI x).toInt = (x : Int) := rl_ti (by omega)
  obtain ⟨K, a0, a9, u, k1, k2, k9, ok, f1, f0, f2, hu, hcu, fe1, fe2⟩ := hC
  refine jj_aload_n C dL_law_308 rfl ?_
  refine jj_aload_n C dL_law_309 rfl ?_
  refine jj_iload C dL_law_310 rfl ?_
  refine jj_iconst (v := 1) C dL_law_312 (by decide) ?_
  refine jj_iadd (v := nI (6 * n + 1)) C dL_law_313 (rl_addR (kn := 1) (by decide) rfl) ?_
  refine jj_xld C hX hbl hbA (k := 6 * n + 1) (by omega) hL dL_law_314 ?_
  refine jj_aload_n C dL_law_315 rfl ?_
  refine tt_callSW (rest := []) C (lm_truncateText hl D cA ak h0 ho a0 (xs (6 * n + 1)) (nI x) g k1 k2 (by omega) (by omega) ok f1 f2) [0] _ rfl (rz_pk1 _ _) (by decide) (rz_ndd _ _) rz_dis1 jw_b616baec39 jw_2b952f0ce1 jw_2ec6af59de jw_20a52f5034 jn_L_truncateText rfl (jj_le rfl) (jj_le rfl) (by show (200 + 64 * n) + 1 ≤ 603072; omega) (by show (20000 + 414 * n) + 6 ≤ 7211114; omega) (jj_le rfl) dL_law_316 rfl (fun _ _ _ hX => hX.elim) (fun rx pl r O => ?_)
  obtain ⟨ok1, fr1, fa1, ⟨cq1, cq2, fA, rfl, rfl⟩ | ⟨cq, fA, rfl, rfl⟩⟩ := O
  · refine tt_rot ?_
    obtain ⟨y, hy, hy2⟩ := rl_nat cq1
    have hyi : (xs (6 * n + 1)).toInt = (y : Int) := by rw [hy]; exact rl_ti hy2
    rw [hy] at fA
    have hC1 : rw_C cA h0 y cz e1 e2 pl := ⟨K, a0, a9, _, (tt_ex.refl _).kd k1 (by decide), (tt_ex.refl _).kd k2 (by decide), (tt_ex.refl _).kd k9 (by decide), ok1, (fr1.at k1 (by decide) (by decide) f1), (fr1.at k2 (by decide) (by decide) f0), fA, (fa1.at k9 (by decide) (by decide) hu), (fun k hk => hcu k (by omega)), (fr1.at k1 (by decide) (by decide) fe1), (fr1.at k1 (by decide) (by decide) fe2)⟩
    refine jj_istore C dL_law_319 (by decide) rfl ?_
    refine jj_aload_n C dL_law_321 rfl ?_
    refine jj_aload_n C dL_law_322 rfl ?_
    refine jj_iload C dL_law_323 rfl ?_
    refine jj_iconst (v := 1) C dL_law_325 (by decide) ?_
    refine jj_iadd (v := nI (6 * n + 1)) C dL_law_326 (rl_addR (kn := 1) (by decide) rfl) ?_
    refine jj_xld C hX hbl hbA (k := 6 * n + 1) (by omega) hL dL_law_327 ?_
    obtain ⟨K2, aw, aa, at1, ai, af, ap, b9, B, um, hk, hk9, ok2, hm, h12, h13, hum, hcm, h17, h18, he3, hM, hB0, hBF⟩ := hR
    obtain ⟨f, P, n6, hc, hcp, h6, un6, hKK, hHP⟩ := hM
    refine tt_pools ?_
    obtain ⟨qd, gt, hqd⟩ := tt_recv (cx := []) ok2 hk.1 (by decide) rfl
    refine tt_callV (rest := []) C (rs_truncateText hl D cA ak x (xs (6 * n + 1)) hk.1 hk.2.1 hk.2.2.1 hk.2.2.2.1 hk.2.2.2.2.1 hk.2.2.2.2.2.1 hk.2.2.2.2.2.2 (by omega) (by omega) ok2 hm h13) [] _ rfl (rz_pkr _) (by decide) (rz_ndr _) rz_dis0 qd hqd rfl rfl jw_6de6af823c jw_81113515e3 jw_b938caa447 jw_f96c99f44d jw_5f822bde56 jn_X11_truncateText rfl (jj_le rfl) (jj_le rfl) (by show (200 + 64 * n) + 1 + 0 ≤ 603072; omega) (by show (20000 + 414 * n) + 6 + 0 ≤ 7211114; omega) (jj_le rfl) dL_law_328 rfl (fun _ _ _ hX => hX.elim) (fun rx pm1 r O => ?_)
    obtain ⟨rfl, ok1, hf1, ha1, O⟩ := O
    refine tt_nilr ?_
    refine tt_pools ?_
    have hm_2 := hm.fr hf1 hk.1 (by decide)
    rcases O with ⟨a1, s7, s13, rfl⟩ | ⟨a1, a2, s7, s13, rfl⟩
    · exfalso; omega
    · have hM9 : rl_M B (5000 * (n : Int)) pm1 h1 aw ap := (rl_M.fr ⟨f, P, n6, hc, hcp, h6, un6, hKK, hHP⟩ hf1 ha1 hk.1 hk.2.1 hk.2.2.2.2.2.2 (by decide) (by decide) (by decide))
      rw [hy] at s13
      refine jj_istore C dL_law_331 (by decide) rfl ?_
      refine jj_goto (tgt := 1435) C dL_law_333 (by decide) ?_
      have hR9 : rw_R cA (n + 1) h1 y cz e1 e2 pm1 := ⟨K2, aw, aa, at1, ai, af, ap, b9, _, _, hk, hk9, ok1, hm_2, (hf1.at hk.1 (by decide) (by decide) h12), s13, (ha1.at hk9 (by decide) (by decide) hum), (fun k hk => hcm k (by omega)), (hf1.at hk.1 (by decide) (by decide) h17), (hf1.at hk.1 (by decide) (by decide) h18), he3, hM9.mono (Int.le_refl _) (by omega), (by omega), (by omega)⟩
      exact jj_loc [2, 3, 4, 5, 6, 7] rfl (jj_widen (by omega) (by omega) (hb (vp_updL g 0 (xs (6 * n + 1)).toInt64) gd y cz e1 e2 pm1 pl (by omega) hC1 hR9))
  · refine tt_rot ?_
    have hC1 : rw_C cA h0 x cz e1 e2 pl := ⟨K, a0, a9, _, (tt_ex.refl _).kd k1 (by decide), (tt_ex.refl _).kd k2 (by decide), (tt_ex.refl _).kd k9 (by decide), ok1, (fr1.at k1 (by decide) (by decide) f1), (fr1.at k2 (by decide) (by decide) f0), fA, (fa1.at k9 (by decide) (by decide) hu), hcu, (fr1.at k1 (by decide) (by decide) fe1), (fr1.at k1 (by decide) (by decide) fe2)⟩
    refine jj_istore C dL_law_319 (by decide) rfl ?_
    refine jj_aload_n C dL_law_321 rfl ?_
    refine jj_aload_n C dL_law_322 rfl ?_
    refine jj_iload C dL_law_323 rfl ?_
    refine jj_iconst (v := 1) C dL_law_325 (by decide) ?_
    refine jj_iadd (v := nI (6 * n + 1)) C dL_law_326 (rl_addR (kn := 1) (by decide) rfl) ?_
    refine jj_xld C hX hbl hbA (k := 6 * n + 1) (by omega) hL dL_law_327 ?_
    obtain ⟨K2, aw, aa, at1, ai, af, ap, b9, B, um, hk, hk9, ok2, hm, h12, h13, hum, hcm, h17, h18, he3, hM, hB0, hBF⟩ := hR
    obtain ⟨f, P, n6, hc, hcp, h6, un6, hKK, hHP⟩ := hM
    refine tt_pools ?_
    obtain ⟨qd, gt, hqd⟩ := tt_recv (cx := []) ok2 hk.1 (by decide) rfl
    refine tt_callV (rest := []) C (rs_truncateText hl D cA ak x (xs (6 * n + 1)) hk.1 hk.2.1 hk.2.2.1 hk.2.2.2.1 hk.2.2.2.2.1 hk.2.2.2.2.2.1 hk.2.2.2.2.2.2 (by omega) (by omega) ok2 hm h13) [] _ rfl (rz_pkr _) (by decide) (rz_ndr _) rz_dis0 qd hqd rfl rfl jw_6de6af823c jw_81113515e3 jw_b938caa447 jw_f96c99f44d jw_5f822bde56 jn_X11_truncateText rfl (jj_le rfl) (jj_le rfl) (by show (200 + 64 * n) + 1 + 0 ≤ 603072; omega) (by show (20000 + 414 * n) + 6 + 0 ≤ 7211114; omega) (jj_le rfl) dL_law_328 rfl (fun _ _ _ hX => hX.elim) (fun rx pm3 r O => ?_)
    obtain ⟨rfl, ok3, hf3, ha3, O⟩ := O
    refine tt_nilr ?_
    refine tt_pools ?_
    have hm_4 := hm.fr hf3 hk.1 (by decide)
    rcases O with ⟨a1, s7, s13, rfl⟩ | ⟨a1, a2, s7, s13, rfl⟩
    · have hM9 : rl_M B (5000 * (n : Int)) pm3 h1 aw ap := (rl_M.fr ⟨f, P, n6, hc, hcp, h6, un6, hKK, hHP⟩ hf3 ha3 hk.1 hk.2.1 hk.2.2.2.2.2.2 (by decide) (by decide) (by decide))
      refine jj_istore C dL_law_331 (by decide) rfl ?_
      refine jj_goto (tgt := 1435) C dL_law_333 (by decide) ?_
      have hR9 : rw_R cA (n + 1) h1 x cz e1 e2 pm3 := ⟨K2, aw, aa, at1, ai, af, ap, b9, _, _, hk, hk9, ok3, hm_4, (hf3.at hk.1 (by decide) (by decide) h12), s13, (ha3.at hk9 (by decide) (by decide) hum), hcm, (hf3.at hk.1 (by decide) (by decide) h17), (hf3.at hk.1 (by decide) (by decide) h18), he3, hM9.mono (Int.le_refl _) (by omega), (by omega), (by omega)⟩
      exact jj_loc [2, 3, 4, 5, 6, 7] rfl (jj_widen (by omega) (by omega) (hb g gd x cz e1 e2 pm3 pl hx hC1 hR9))
    · exfalso; omega

set_option maxHeartbeats 4000000 in
set_option maxRecDepth 100000 in
theorem law_c2 {p : Program} {l : Launch} {e : Env} {s : State} {m : MethodId} {below : List Frame} {meth : Method} {c : Code} (hl : l.stackTraces = false) {D : va_G} {cA : Nat → ClassId} {ak : (Nat → Nat) × (Nat → Nat)} {A : Nat → Prop} {b L : Nat} {xs : Nat → Int32} {Q : State → Prop} (C : jj_C p l s m #[Value.ref b] meth c code 9 R_law ret D cA A ak) (hX : va_X b L xs s s.heap) (hbl : b < s.heap.size) (hbA : ¬ A b) (hL : L ≤ 3072) {n h0 h1 ho hd : Nat} (hn : 6 * n + 6 ≤ L) (hb : ∀ (g : Nat → Int64) (gd : Nat → UInt64) (x : Nat) (cz : Nat → Int) (e1 : Nat) (e2 : Int32) (pR pC : va_W), x ≤ 400 → rw_C cA h0 x cz e1 e2 pC → rw_R cA (n + 1) h1 x cz e1 e2 pR → jj_J p l e room_1 s m #[Value.ref b] below meth c 9 A Q (jj_X D A (((ho, .inl (cA 2, 1, .inr (.inl g))) :: (hd, .inl (cA 4, 1, .inr (.inr (.inr (.inl gd))))) :: pR) ++ pC)) (200 + 64 * (n + 1)) (20000 + 414 * (n + 1)) 1435 [(0, .ref b), (1, .ref h0), (2, .ref h1), (3, .ref ho), (4, .ref hd), (5, .int (nI (6 * n)))] []) (g : Nat → Int64) (gd : Nat → UInt64) (x : Nat) (cz : Nat → Int) (e1 : Nat) (e2 : Int32) (pR pC : va_W) (hx : x ≤ 400) (hC : rw_C cA h0 x cz e1 e2 pC) (hR : rw_R cA n h1 x cz e1 e2 pR) : jj_J p l e room_1 s m #[Value.ref b] below meth c 9 A Q (jj_X D A (((ho, .inl (cA 2, 1, .inr (.inl g))) :: (hd, .inl (cA 4, 1, .inr (.inr (.inr (.inl gd))))) :: pR) ++ pC)) (200 + 64 * n) (20000 + 414 * n) 336 [(0, .ref b), (1, .ref h0), (2, .ref h1), (3, .ref ho), (4, .ref hd), (5, .int (nI (6 * n)))] [] := by
  have hxi : (nI x).toInt = (x : Int) := rl_ti (by omega)
  obtain ⟨K, a0, a9, u, k1, k2, k9, ok, f1, f0, f2, hu, hcu, fe1, fe2⟩ := hC
  refine jj_aload_n C dL_law_336 rfl ?_
  obtain ⟨qc, gs, hqc⟩ := tt_recv (cx := []) ok k1 (by decide) rfl
  refine tt_callV (rest := []) C (te_parseFund hl D cA ak h0 a0 a9 x u cz k1 k2 k9 hx hcu ok f1 f0 f2 hu) [] _ rfl (rz_pkr _) (by decide) (rz_ndr _) rz_dis0 qc hqc rfl rfl jw_19adc06c07 jw_1f29d0ec54 jw_5438499b53 jw_6f6d707074 jw_1f123082b6 jn_X10_parseFund rfl (jj_le rfl) (jj_le rfl) (by show (200 + 64 * n) + 1 ≤ 603072; omega) (by show (20000 + 414 * n) + 3 ≤ 7211114; omega) (jj_le rfl) dL_law_337 rfl (fun _ _ _ hX => hX.elim) (fun rx pl r O => ?_)
  obtain ⟨K1, hx1, rfl, ok1, fr1, fa1, ⟨kc9, q9, hkn, hps, fC1, fC2, fA, rfl⟩ | ⟨j9, hps, fC1, fC2, fA, rfl⟩⟩ := O
  · refine tt_nilr ?_
    rw [rz_n0] at fA
    have hC1 : rw_C cA h0 0 cz kc9 (nI q9) pl := ⟨K1, a0, a9, _, hx1.kd k1 (by decide), hx1.kd k2 (by decide), hx1.kd k9 (by decide), ok1, (fr1.at k1 (by decide) (by decide) f1), (fr1.at k2 (by decide) (by decide) f0), fA, (fa1.at k9 (by decide) (by decide) hu), (fun k hk => absurd hk (Nat.not_lt_zero _)), fC1, fC2⟩
    refine jj_pop C dL_law_340 rfl ?_
    refine jj_aload_n C dL_law_341 rfl ?_
    obtain ⟨K2, aw, aa, at1, ai, af, ap, b9, B, um, hk, hk9, ok2, hm, h12, h13, hum, hcm, h17, h18, he3, hM, hB0, hBF⟩ := hR
    obtain ⟨f, P, n6, hc, hcp, h6, un6, hKK, hHP⟩ := hM
    refine tt_pools ?_
    obtain ⟨qd, gt, hqd⟩ := tt_recv (cx := []) ok2 hk.1 (by decide) rfl
    refine tt_callV (rest := []) C (re_parseFund hl D cA ak x n6 b9 um cz B (5000 * (n : Int)) f P hk.1 hk.2.1 hk.2.2.1 hk.2.2.2.1 hk.2.2.2.2.1 hk.2.2.2.2.2.1 hk.2.2.2.2.2.2 (by omega) (by omega) (by omega) (by omega) hk9 hKK hHP (by omega) (by omega) ⟨by omega, by omega⟩ hcm ok2 hm hc hcp h12 hum h6 h13) [] _ rfl (rz_pkr _) (by decide) (rz_ndr _) rz_dis0 qd hqd rfl rfl jw_5a171a7dfd jw_dc42d8e0d6 jw_95b9944995 jw_f96c99f44d jw_00b8c50085 jn_X11_parseFund rfl (jj_le rfl) (jj_le rfl) (by show (200 + 64 * n) + 1 + 0 ≤ 603072; omega) (by show (20000 + 414 * n) + 3 + 0 ≤ 7211114; omega) (jj_le rfl) dL_law_342 rfl (fun _ _ _ hX => hX.elim) (fun rx pm1 r O => ?_)
    obtain ⟨rfl, ok1, hf1, ha1, O⟩ := O
    refine tt_nilr ?_
    refine tt_pools ?_
    have hm_2 := hm.fr hf1 hk.1 (by decide)
    rcases O with ⟨l9, r9, hln, hl3, hpt, hM9, s13, s17, s18, rfl⟩ | ⟨i9, hpt, hM9, s13, s17, s18, rfl⟩
    · obtain rfl : kc9 = l9 := congrArg (fun z : ps_S => z.1) (hps.u hpt)
      obtain rfl : q9 = r9 := congrArg (fun z : ps_S => z.2.1) (hps.u hpt)
      rw [rz_n0] at s13
      refine jj_pop C dL_law_345 rfl ?_
      refine jj_goto (tgt := 1435) C dL_law_346 (by decide) ?_
      have hR9 : rw_R cA (n + 1) h1 0 cz kc9 (nI q9) pm1 := ⟨K2, aw, aa, at1, ai, af, ap, b9, _, _, hk, hk9, ok1, hm_2, (hf1.at hk.1 (by decide) (by decide) h12), s13, (ha1.at hk9 (by decide) (by decide) hum), (fun k hk => absurd hk (Nat.not_lt_zero _)), s17, s18, hl3, hM9.mono (Int.le_refl _) (by omega), (by omega), (by omega)⟩
      exact jj_loc [0, 1, 2, 3, 4, 5] rfl (jj_widen (by omega) (by omega) (hb g gd 0 cz kc9 (nI q9) pm1 pl (by omega) hC1 hR9))
    · exact absurd (congrArg (fun z : ps_S => z.1) (hps.u hpt)) hkn
  · refine tt_nilr ?_
    rw [rz_n0] at fA
    rw [rz_n0] at fC1
    have hC1 : rw_C cA h0 0 cz 0 (-1) pl := ⟨K1, a0, a9, _, hx1.kd k1 (by decide), hx1.kd k2 (by decide), hx1.kd k9 (by decide), ok1, (fr1.at k1 (by decide) (by decide) f1), (fr1.at k2 (by decide) (by decide) f0), fA, (fa1.at k9 (by decide) (by decide) hu), (fun k hk => absurd hk (Nat.not_lt_zero _)), fC1, fC2⟩
    refine jj_pop C dL_law_340 rfl ?_
    refine jj_aload_n C dL_law_341 rfl ?_
    obtain ⟨K2, aw, aa, at1, ai, af, ap, b9, B, um, hk, hk9, ok2, hm, h12, h13, hum, hcm, h17, h18, he3, hM, hB0, hBF⟩ := hR
    obtain ⟨f, P, n6, hc, hcp, h6, un6, hKK, hHP⟩ := hM
    refine tt_pools ?_
    obtain ⟨qd, gt, hqd⟩ := tt_recv (cx := []) ok2 hk.1 (by decide) rfl
    refine tt_callV (rest := []) C (re_parseFund hl D cA ak x n6 b9 um cz B (5000 * (n : Int)) f P hk.1 hk.2.1 hk.2.2.1 hk.2.2.2.1 hk.2.2.2.2.1 hk.2.2.2.2.2.1 hk.2.2.2.2.2.2 (by omega) (by omega) (by omega) (by omega) hk9 hKK hHP (by omega) (by omega) ⟨by omega, by omega⟩ hcm ok2 hm hc hcp h12 hum h6 h13) [] _ rfl (rz_pkr _) (by decide) (rz_ndr _) rz_dis0 qd hqd rfl rfl jw_5a171a7dfd jw_dc42d8e0d6 jw_95b9944995 jw_f96c99f44d jw_00b8c50085 jn_X11_parseFund rfl (jj_le rfl) (jj_le rfl) (by show (200 + 64 * n) + 1 + 0 ≤ 603072; omega) (by show (20000 + 414 * n) + 3 + 0 ≤ 7211114; omega) (jj_le rfl) dL_law_342 rfl (fun _ _ _ hX => hX.elim) (fun rx pm3 r O => ?_)
    obtain ⟨rfl, ok3, hf3, ha3, O⟩ := O
    refine tt_nilr ?_
    refine tt_pools ?_
    have hm_4 := hm.fr hf3 hk.1 (by decide)
    rcases O with ⟨l9, r9, hln, hl3, hpt, hM9, s13, s17, s18, rfl⟩ | ⟨i9, hpt, hM9, s13, s17, s18, rfl⟩
    · exact absurd (congrArg (fun z : ps_S => z.1) (hps.u hpt)).symm hln
    · obtain rfl : j9 = i9 := congrArg (fun z : ps_S => z.2.2) (hps.u hpt)
      rw [rz_n0] at s13
      refine jj_pop C dL_law_345 rfl ?_
      refine jj_goto (tgt := 1435) C dL_law_346 (by decide) ?_
      have hR9 : rw_R cA (n + 1) h1 0 cz 0 (-1) pm3 := ⟨K2, aw, aa, at1, ai, af, ap, b9, _, _, hk, hk9, ok3, hm_4, (hf3.at hk.1 (by decide) (by decide) h12), s13, (ha3.at hk9 (by decide) (by decide) hum), (fun k hk => absurd hk (Nat.not_lt_zero _)), s17, s18, (by omega), hM9.mono (Int.le_refl _) (by omega), (by omega), (by omega)⟩
      exact jj_loc [0, 1, 2, 3, 4, 5] rfl (jj_widen (by omega) (by omega) (hb g gd 0 cz 0 (-1) pm3 pl (by omega) hC1 hR9))

set_option maxHeartbeats 4000000 in
set_option maxRecDepth 100000 in
theorem law_c3 {p : Program} {l : Launch} {e : Env} {s : State} {m : MethodId} {below : List Frame} {meth : Method} {c : Code} (hl : l.stackTraces = false) {D : va_G} {cA : Nat → ClassId} {ak : (Nat → Nat) × (Nat → Nat)} {A : Nat → Prop} {b L : Nat} {xs : Nat → Int32} {Q : State → Prop} (C : jj_C p l s m #[Value.ref b] meth c code 9 R_law ret D cA A ak) (hX : va_X b L xs s s.heap) (hbl : b < s.heap.size) (hbA : ¬ A b) (hL : L ≤ 3072) {n h0 h1 ho hd : Nat} (hn : 6 * n + 6 ≤ L) (hb : ∀ (g : Nat → Int64) (gd : Nat → UInt64) (x : Nat) (cz : Nat → Int) (e1 : Nat) (e2 : Int32) (pR pC : va_W), x ≤ 400 → rw_C cA h0 x cz e1 e2 pC → rw_R cA (n + 1) h1 x cz e1 e2 pR → jj_J p l e room_1 s m #[Value.ref b] below meth c 9 A Q (jj_X D A (((ho, .inl (cA 2, 1, .inr (.inl g))) :: (hd, .inl (cA 4, 1, .inr (.inr (.inr (.inl gd))))) :: pR) ++ pC)) (200 + 64 * (n + 1)) (20000 + 414 * (n + 1)) 1435 [(0, .ref b), (1, .ref h0), (2, .ref h1), (3, .ref ho), (4, .ref hd), (5, .int (nI (6 * n)))] []) (g : Nat → Int64) (gd : Nat → UInt64) (x : Nat) (cz : Nat → Int) (e1 : Nat) (e2 : Int32) (pR pC : va_W) (hx : x ≤ 400) (hC : rw_C cA h0 x cz e1 e2 pC) (hR : rw_R cA n h1 x cz e1 e2 pR) : jj_J p l e room_1 s m #[Value.ref b] below meth c 9 A Q (jj_X D A (((ho, .inl (cA 2, 1, .inr (.inl g))) :: (hd, .inl (cA 4, 1, .inr (.inr (.inr (.inl gd))))) :: pR) ++ pC)) (200 + 64 * n) (20000 + 414 * n) 349 [(0, .ref b), (1, .ref h0), (2, .ref h1), (3, .ref ho), (4, .ref hd), (5, .int (nI (6 * n)))] [] := by
  have hxi : (nI x).toInt = (x : Int) := rl_ti (by omega)
  obtain ⟨K, a0, a9, u, k1, k2, k9, ok, f1, f0, f2, hu, hcu, fe1, fe2⟩ := hC
  refine jj_aload_n C dL_law_349 rfl ?_
  obtain ⟨qc, gs, hqc⟩ := tt_recv (cx := []) ok k1 (by decide) rfl
  refine tt_callV (rest := []) C (te_errorCode hl D cA ak h0 (nI e1) k1 ok fe1) [] _ rfl (rz_pkr _) (by decide) (rz_ndr _) rz_dis0 qc hqc rfl rfl jw_2aa3c19043 jw_2ac5472b21 jw_cb735f822e jw_6f6d707074 jw_84c9e32d1d jn_X10_errorCode rfl (jj_le rfl) (jj_le rfl) (by show (200 + 64 * n) + 0 ≤ 603072; omega) (by show (20000 + 414 * n) + 0 ≤ 7211114; omega) (jj_le rfl) dL_law_350 rfl (fun _ _ _ hX => hX.elim) (fun rx pl r O => ?_)
  obtain ⟨rfl, ok1, fr1, fa1, rfl⟩ := O
  refine tt_nilr ?_
  have hC1 : rw_C cA h0 x cz e1 e2 pl := ⟨K, a0, a9, _, (tt_ex.refl _).kd k1 (by decide), (tt_ex.refl _).kd k2 (by decide), (tt_ex.refl _).kd k9 (by decide), ok1, (fr1.at k1 (by decide) (by decide) f1), (fr1.at k2 (by decide) (by decide) f0), (fr1.at k2 (by decide) (by decide) f2), (fa1.at k9 (by decide) (by decide) hu), hcu, (fr1.at k1 (by decide) (by decide) fe1), (fr1.at k1 (by decide) (by decide) fe2)⟩
  refine jj_pop C dL_law_353 rfl ?_
  refine jj_aload_n C dL_law_354 rfl ?_
  obtain ⟨K2, aw, aa, at1, ai, af, ap, b9, B, um, hk, hk9, ok2, hm, h12, h13, hum, hcm, h17, h18, he3, hM, hB0, hBF⟩ := hR
  obtain ⟨f, P, n6, hc, hcp, h6, un6, hKK, hHP⟩ := hM
  refine tt_pools ?_
  obtain ⟨qd, gt, hqd⟩ := tt_recv (cx := []) ok2 hk.1 (by decide) rfl
  refine tt_callV (rest := []) C (re_errorCode hl D cA ak (nI e1) hk.1 hk.2.1 hk.2.2.1 hk.2.2.2.1 hk.2.2.2.2.1 hk.2.2.2.2.2.1 hk.2.2.2.2.2.2 (tt_lo _) (tt_hi _) ok2 hm h17) [] _ rfl (rz_pkr _) (by decide) (rz_ndr _) rz_dis0 qd hqd rfl rfl jw_a2262bffe0 jw_59589a51e7 jw_4697e3e654 jw_f96c99f44d jw_120a4e68f7 jn_X11_errorCode rfl (jj_le rfl) (jj_le rfl) (by show (200 + 64 * n) + 0 + 0 ≤ 603072; omega) (by show (20000 + 414 * n) + 0 + 0 ≤ 7211114; omega) (jj_le rfl) dL_law_355 rfl (fun _ _ _ hX => hX.elim) (fun rx pm1 r O => ?_)
  obtain ⟨rfl, ok1, hf1, ha1, O⟩ := O
  refine tt_nilr ?_
  refine tt_pools ?_
  have hm_2 := hm.fr hf1 hk.1 (by decide)
  obtain rfl := O
  refine jj_pop C dL_law_358 rfl ?_
  refine jj_goto (tgt := 1435) C dL_law_359 (by decide) ?_
  have hR9 : rw_R cA (n + 1) h1 x cz e1 e2 pm1 := ⟨K2, aw, aa, at1, ai, af, ap, b9, _, _, hk, hk9, ok1, hm_2, (hf1.at hk.1 (by decide) (by decide) h12), (hf1.at hk.1 (by decide) (by decide) h13), (ha1.at hk9 (by decide) (by decide) hum), hcm, (hf1.at hk.1 (by decide) (by decide) h17), (hf1.at hk.1 (by decide) (by decide) h18), he3, (rl_M.fr ⟨f, P, n6, hc, hcp, h6, un6, hKK, hHP⟩ hf1 ha1 hk.1 hk.2.1 hk.2.2.2.2.2.2 (by decide) (by decide) (by decide)).mono (Int.le_refl _) (by omega), (by omega), (by omega)⟩
  exact jj_loc [0, 1, 2, 3, 4, 5] rfl (jj_widen (by omega) (by omega) (hb g gd x cz e1 e2 pm1 pl hx hC1 hR9))

set_option maxHeartbeats 4000000 in
set_option maxRecDepth 100000 in
theorem law_c4 {p : Program} {l : Launch} {e : Env} {s : State} {m : MethodId} {below : List Frame} {meth : Method} {c : Code} (hl : l.stackTraces = false) {D : va_G} {cA : Nat → ClassId} {ak : (Nat → Nat) × (Nat → Nat)} {A : Nat → Prop} {b L : Nat} {xs : Nat → Int32} {Q : State → Prop} (C : jj_C p l s m #[Value.ref b] meth c code 9 R_law ret D cA A ak) (hX : va_X b L xs s s.heap) (hbl : b < s.heap.size) (hbA : ¬ A b) (hL : L ≤ 3072) {n h0 h1 ho hd : Nat} (hn : 6 * n + 6 ≤ L) (hb : ∀ (g : Nat → Int64) (gd : Nat → UInt64) (x : Nat) (cz : Nat → Int) (e1 : Nat) (e2 : Int32) (pR pC : va_W), x ≤ 400 → rw_C cA h0 x cz e1 e2 pC → rw_R cA (n + 1) h1 x cz e1 e2 pR → jj_J p l e room_1 s m #[Value.ref b] below meth c 9 A Q (jj_X D A (((ho, .inl (cA 2, 1, .inr (.inl g))) :: (hd, .inl (cA 4, 1, .inr (.inr (.inr (.inl gd))))) :: pR) ++ pC)) (200 + 64 * (n + 1)) (20000 + 414 * (n + 1)) 1435 [(0, .ref b), (1, .ref h0), (2, .ref h1), (3, .ref ho), (4, .ref hd), (5, .int (nI (6 * n)))] []) (g : Nat → Int64) (gd : Nat → UInt64) (x : Nat) (cz : Nat → Int) (e1 : Nat) (e2 : Int32) (pR pC : va_W) (hx : x ≤ 400) (hC : rw_C cA h0 x cz e1 e2 pC) (hR : rw_R cA n h1 x cz e1 e2 pR) : jj_J p l e room_1 s m #[Value.ref b] below meth c 9 A Q (jj_X D A (((ho, .inl (cA 2, 1, .inr (.inl g))) :: (hd, .inl (cA 4, 1, .inr (.inr (.inr (.inl gd))))) :: pR) ++ pC)) (200 + 64 * n) (20000 + 414 * n) 362 [(0, .ref b), (1, .ref h0), (2, .ref h1), (3, .ref ho), (4, .ref hd), (5, .int (nI (6 * n)))] [] := by
  have hxi : (nI x).toInt = (x : Int) := rl_ti (by omega)
  obtain ⟨K, a0, a9, u, k1, k2, k9, ok, f1, f0, f2, hu, hcu, fe1, fe2⟩ := hC
  refine jj_aload_n C dL_law_362 rfl ?_
  obtain ⟨qc, gs, hqc⟩ := tt_recv (cx := []) ok k1 (by decide) rfl
  refine tt_callV (rest := []) C (te_errorPosition hl D cA ak h0 e2 k1 ok fe2) [] _ rfl (rz_pkr _) (by decide) (rz_ndr _) rz_dis0 qc hqc rfl rfl jw_d80c95d5c6 jw_7929d985cd jw_e7e7a0053b jw_6f6d707074 jw_f6366bab80 jn_X10_errorPosition rfl (jj_le rfl) (jj_le rfl) (by show (200 + 64 * n) + 0 ≤ 603072; omega) (by show (20000 + 414 * n) + 0 ≤ 7211114; omega) (jj_le rfl) dL_law_363 rfl (fun _ _ _ hX => hX.elim) (fun rx pl r O => ?_)
  obtain ⟨rfl, ok1, fr1, fa1, rfl⟩ := O
  refine tt_nilr ?_
  have hC1 : rw_C cA h0 x cz e1 e2 pl := ⟨K, a0, a9, _, (tt_ex.refl _).kd k1 (by decide), (tt_ex.refl _).kd k2 (by decide), (tt_ex.refl _).kd k9 (by decide), ok1, (fr1.at k1 (by decide) (by decide) f1), (fr1.at k2 (by decide) (by decide) f0), (fr1.at k2 (by decide) (by decide) f2), (fa1.at k9 (by decide) (by decide) hu), hcu, (fr1.at k1 (by decide) (by decide) fe1), (fr1.at k1 (by decide) (by decide) fe2)⟩
  refine jj_aload_n C dL_law_366 rfl ?_
  obtain ⟨K2, aw, aa, at1, ai, af, ap, b9, B, um, hk, hk9, ok2, hm, h12, h13, hum, hcm, h17, h18, he3, hM, hB0, hBF⟩ := hR
  obtain ⟨f, P, n6, hc, hcp, h6, un6, hKK, hHP⟩ := hM
  refine tt_pools ?_
  obtain ⟨qd, gt, hqd⟩ := tt_recv (cx := []) ok2 hk.1 (by decide) rfl
  refine tt_callV (rest := [.int e2]) C (re_errorPosition hl D cA ak e2 hk.1 hk.2.1 hk.2.2.1 hk.2.2.2.1 hk.2.2.2.2.1 hk.2.2.2.2.2.1 hk.2.2.2.2.2.2 (tt_lo _) (tt_hi _) ok2 hm h18) [] _ rfl (rz_pkr _) (by decide) (rz_ndr _) rz_dis0 qd hqd rfl rfl jw_06f463b1fd jw_7f0590cefd jw_72750b26f6 jw_f96c99f44d jw_89585a2ded jn_X11_errorPosition rfl (jj_le rfl) (jj_le rfl) (by show (200 + 64 * n) + 0 + 0 ≤ 603072; omega) (by show (20000 + 414 * n) + 0 + 0 ≤ 7211114; omega) (jj_le rfl) dL_law_367 rfl (fun _ _ _ hX => hX.elim) (fun rx pm1 r O => ?_)
  obtain ⟨rfl, ok1, hf1, ha1, O⟩ := O
  refine tt_nilr ?_
  refine tt_pools ?_
  have hm_2 := hm.fr hf1 hk.1 (by decide)
  obtain rfl := O
  refine jj_icmp_eqT (tgt := 1435) C dL_law_370 (by decide) rfl ?_
  have hR9 : rw_R cA (n + 1) h1 x cz e1 e2 pm1 := ⟨K2, aw, aa, at1, ai, af, ap, b9, _, _, hk, hk9, ok1, hm_2, (hf1.at hk.1 (by decide) (by decide) h12), (hf1.at hk.1 (by decide) (by decide) h13), (ha1.at hk9 (by decide) (by decide) hum), hcm, (hf1.at hk.1 (by decide) (by decide) h17), (hf1.at hk.1 (by decide) (by decide) h18), he3, (rl_M.fr ⟨f, P, n6, hc, hcp, h6, un6, hKK, hHP⟩ hf1 ha1 hk.1 hk.2.1 hk.2.2.2.2.2.2 (by decide) (by decide) (by decide)).mono (Int.le_refl _) (by omega), (by omega), (by omega)⟩
  exact jj_loc [0, 1, 2, 3, 4, 5] rfl (jj_widen (by omega) (by omega) (hb g gd x cz e1 e2 pm1 pl hx hC1 hR9))

set_option maxHeartbeats 4000000 in
set_option maxRecDepth 100000 in
theorem law_c5 {p : Program} {l : Launch} {e : Env} {s : State} {m : MethodId} {below : List Frame} {meth : Method} {c : Code} (hl : l.stackTraces = false) {D : va_G} {cA : Nat → ClassId} {ak : (Nat → Nat) × (Nat → Nat)} {A : Nat → Prop} {b L : Nat} {xs : Nat → Int32} {Q : State → Prop} (C : jj_C p l s m #[Value.ref b] meth c code 9 R_law ret D cA A ak) (hX : va_X b L xs s s.heap) (hbl : b < s.heap.size) (hbA : ¬ A b) (hL : L ≤ 3072) {n h0 h1 ho hd : Nat} (hn : 6 * n + 6 ≤ L) (hb : ∀ (g : Nat → Int64) (gd : Nat → UInt64) (x : Nat) (cz : Nat → Int) (e1 : Nat) (e2 : Int32) (pR pC : va_W), x ≤ 400 → rw_C cA h0 x cz e1 e2 pC → rw_R cA (n + 1) h1 x cz e1 e2 pR → jj_J p l e room_1 s m #[Value.ref b] below meth c 9 A Q (jj_X D A (((ho, .inl (cA 2, 1, .inr (.inl g))) :: (hd, .inl (cA 4, 1, .inr (.inr (.inr (.inl gd))))) :: pR) ++ pC)) (200 + 64 * (n + 1)) (20000 + 414 * (n + 1)) 1435 [(0, .ref b), (1, .ref h0), (2, .ref h1), (3, .ref ho), (4, .ref hd), (5, .int (nI (6 * n)))] []) (g : Nat → Int64) (gd : Nat → UInt64) (x : Nat) (cz : Nat → Int) (e1 : Nat) (e2 : Int32) (pR pC : va_W) (hx : x ≤ 400) (hC : rw_C cA h0 x cz e1 e2 pC) (hR : rw_R cA n h1 x cz e1 e2 pR) : jj_J p l e room_1 s m #[Value.ref b] below meth c 9 A Q (jj_X D A (((ho, .inl (cA 2, 1, .inr (.inl g))) :: (hd, .inl (cA 4, 1, .inr (.inr (.inr (.inl gd))))) :: pR) ++ pC)) (200 + 64 * n) (20000 + 414 * n) 375 [(0, .ref b), (1, .ref h0), (2, .ref h1), (3, .ref ho), (4, .ref hd), (5, .int (nI (6 * n)))] [] := by
  have hxi : (nI x).toInt = (x : Int) := rl_ti (by omega)
  obtain ⟨K, a0, a9, u, k1, k2, k9, ok, f1, f0, f2, hu, hcu, fe1, fe2⟩ := hC
  refine jj_aload_n C dL_law_375 rfl ?_
  refine jj_aload_n C dL_law_376 rfl ?_
  refine jj_iload C dL_law_377 rfl ?_
  refine jj_iconst (v := 1) C dL_law_379 (by decide) ?_
  refine jj_iadd (v := nI (6 * n + 1)) C dL_law_380 (rl_addR (kn := 1) (by decide) rfl) ?_
  refine jj_xld C hX hbl hbA (k := 6 * n + 1) (by omega) hL dL_law_381 ?_
  refine jj_aload_n C dL_law_382 rfl ?_
  refine jj_iload C dL_law_383 rfl ?_
  refine jj_iconst (v := 2) C dL_law_385 (by decide) ?_
  refine jj_iadd (v := nI (6 * n + 2)) C dL_law_386 (rl_addR (kn := 2) (by decide) rfl) ?_
  refine jj_xld C hX hbl hbA (k := 6 * n + 2) (by omega) hL dL_law_387 ?_
  refine jj_aload_n C dL_law_388 rfl ?_
  refine tt_callSW (rest := []) C (lm_subscribe hl D cA ak h0 ho (xs (6 * n + 1)) (xs (6 * n + 2)) g k1 ok) [0] _ rfl (rz_pk1 _ _) (by decide) (rz_ndd _ _) rz_dis1 jw_24dcb6130e jw_cbc2c36111 jw_2ec6af59de jw_28bba61b96 jn_L_subscribe rfl (jj_le rfl) (jj_le rfl) (by show (200 + 64 * n) + 63 ≤ 603072; omega) (by show (20000 + 414 * n) + 408 ≤ 7211114; omega) (jj_le rfl) dL_law_389 rfl (fun _ _ _ hX => hX.elim) (fun rx pl r O => ?_)
  obtain ⟨K1, hx1, ok1, fr1, fa1, g1, v1, rfl, rfl⟩ := O
  refine tt_rot ?_
  have hC1 : rw_C cA h0 x cz e1 e2 pl := ⟨K1, a0, a9, _, hx1.kd k1 (by decide), hx1.kd k2 (by decide), hx1.kd k9 (by decide), ok1, (fr1.at k1 (by decide) (by decide) f1), (fr1.at k2 (by decide) (by decide) f0), (fr1.at k2 (by decide) (by decide) f2), (fa1.at k9 (by decide) (by decide) hu), hcu, (fr1.at k1 (by decide) (by decide) fe1), (fr1.at k1 (by decide) (by decide) fe2)⟩
  refine jj_istore C dL_law_392 (by decide) rfl ?_
  refine jj_aload_n C dL_law_394 rfl ?_
  refine jj_aload_n C dL_law_395 rfl ?_
  refine jj_iload C dL_law_396 rfl ?_
  refine jj_iconst (v := 1) C dL_law_398 (by decide) ?_
  refine jj_iadd (v := nI (6 * n + 1)) C dL_law_399 (rl_addR (kn := 1) (by decide) rfl) ?_
  refine jj_xld C hX hbl hbA (k := 6 * n + 1) (by omega) hL dL_law_400 ?_
  refine jj_aload_n C dL_law_401 rfl ?_
  refine jj_iload C dL_law_402 rfl ?_
  refine jj_iconst (v := 2) C dL_law_404 (by decide) ?_
  refine jj_iadd (v := nI (6 * n + 2)) C dL_law_405 (rl_addR (kn := 2) (by decide) rfl) ?_
  refine jj_xld C hX hbl hbA (k := 6 * n + 2) (by omega) hL dL_law_406 ?_
  obtain ⟨K2, aw, aa, at1, ai, af, ap, b9, B, um, hk, hk9, ok2, hm, h12, h13, hum, hcm, h17, h18, he3, hM, hB0, hBF⟩ := hR
  obtain ⟨f, P, n6, hc, hcp, h6, un6, hKK, hHP⟩ := hM
  refine tt_pools ?_
  obtain ⟨qd, gt, hqd⟩ := tt_recv (cx := []) ok2 hk.1 (by decide) rfl
  refine tt_callV (rest := []) C (rs_subscribe hl D cA ak n6 (xs (6 * n + 1)) (xs (6 * n + 2)) B (5000 * (n : Int)) f P hk.1 hk.2.1 hk.2.2.1 hk.2.2.2.1 hk.2.2.2.2.1 hk.2.2.2.2.2.1 hk.2.2.2.2.2.2 (by omega) (by omega) hKK hHP (by omega) (by omega) ⟨by omega, by omega⟩ ok2 hm hc hcp h6) [] _ rfl (rz_pkr _) (by decide) (rz_ndr _) rz_dis0 qd hqd rfl rfl jw_7f245152d7 jw_33f46dafb4 jw_82e1af9bb3 jw_f96c99f44d jw_3f903e3c6c jn_X11_subscribe rfl (jj_le rfl) (jj_le rfl) (by show (200 + 64 * n) + 63 + 0 ≤ 603072; omega) (by show (20000 + 414 * n) + 408 + 0 ≤ 7211114; omega) (jj_le rfl) dL_law_407 rfl (fun _ _ _ hX => hX.elim) (fun rx pm1 r O => ?_)
  obtain ⟨rfl, ok1, hf1, ha1, O⟩ := O
  refine tt_nilr ?_
  refine tt_pools ?_
  have hm_2 := hm.fr hf1 hk.1 (by decide)
  obtain ⟨hM_3, w_4, rfl⟩ := O
  refine jj_istore C dL_law_410 (by decide) rfl ?_
  refine jj_goto (tgt := 1435) C dL_law_412 (by decide) ?_
  have hR9 : rw_R cA (n + 1) h1 x cz e1 e2 pm1 := ⟨K2, aw, aa, at1, ai, af, ap, b9, _, _, hk, hk9, ok1, hm_2, (hf1.at hk.1 (by decide) (by decide) h12), (hf1.at hk.1 (by decide) (by decide) h13), (ha1.at hk9 (by decide) (by decide) hum), hcm, (hf1.at hk.1 (by decide) (by decide) h17), (hf1.at hk.1 (by decide) (by decide) h18), he3, hM_3.mono (Int.le_refl _) (by omega), (by omega), (by omega)⟩
  exact jj_loc [2, 3, 4, 5, 6, 7] rfl (jj_widen (by omega) (by omega) (hb g1 gd x cz e1 e2 pm1 pl hx hC1 hR9))

set_option maxHeartbeats 4000000 in
set_option maxRecDepth 100000 in
theorem law_c6 {p : Program} {l : Launch} {e : Env} {s : State} {m : MethodId} {below : List Frame} {meth : Method} {c : Code} (hl : l.stackTraces = false) {D : va_G} {cA : Nat → ClassId} {ak : (Nat → Nat) × (Nat → Nat)} {A : Nat → Prop} {b L : Nat} {xs : Nat → Int32} {Q : State → Prop} (C : jj_C p l s m #[Value.ref b] meth c code 9 R_law ret D cA A ak) (hX : va_X b L xs s s.heap) (hbl : b < s.heap.size) (hbA : ¬ A b) (hL : L ≤ 3072) {n h0 h1 ho hd : Nat} (hn : 6 * n + 6 ≤ L) (hb : ∀ (g : Nat → Int64) (gd : Nat → UInt64) (x : Nat) (cz : Nat → Int) (e1 : Nat) (e2 : Int32) (pR pC : va_W), x ≤ 400 → rw_C cA h0 x cz e1 e2 pC → rw_R cA (n + 1) h1 x cz e1 e2 pR → jj_J p l e room_1 s m #[Value.ref b] below meth c 9 A Q (jj_X D A (((ho, .inl (cA 2, 1, .inr (.inl g))) :: (hd, .inl (cA 4, 1, .inr (.inr (.inr (.inl gd))))) :: pR) ++ pC)) (200 + 64 * (n + 1)) (20000 + 414 * (n + 1)) 1435 [(0, .ref b), (1, .ref h0), (2, .ref h1), (3, .ref ho), (4, .ref hd), (5, .int (nI (6 * n)))] []) (g : Nat → Int64) (gd : Nat → UInt64) (x : Nat) (cz : Nat → Int) (e1 : Nat) (e2 : Int32) (pR pC : va_W) (hx : x ≤ 400) (hC : rw_C cA h0 x cz e1 e2 pC) (hR : rw_R cA n h1 x cz e1 e2 pR) : jj_J p l e room_1 s m #[Value.ref b] below meth c 9 A Q (jj_X D A (((ho, .inl (cA 2, 1, .inr (.inl g))) :: (hd, .inl (cA 4, 1, .inr (.inr (.inr (.inl gd))))) :: pR) ++ pC)) (200 + 64 * n) (20000 + 414 * n) 415 [(0, .ref b), (1, .ref h0), (2, .ref h1), (3, .ref ho), (4, .ref hd), (5, .int (nI (6 * n)))] [] := by
  have hxi : (nI x).toInt = (x : Int) := rl_ti (by omega)
  obtain ⟨K, a0, a9, u, k1, k2, k9, ok, f1, f0, f2, hu, hcu, fe1, fe2⟩ := hC
  refine jj_aload_n C dL_law_415 rfl ?_
  refine jj_aload_n C dL_law_416 rfl ?_
  refine jj_iload C dL_law_417 rfl ?_
  refine jj_iconst (v := 1) C dL_law_419 (by decide) ?_
  refine jj_iadd (v := nI (6 * n + 1)) C dL_law_420 (rl_addR (kn := 1) (by decide) rfl) ?_
  refine jj_xld C hX hbl hbA (k := 6 * n + 1) (by omega) hL dL_law_421 ?_
  refine jj_aload_n C dL_law_422 rfl ?_
  refine jj_iload C dL_law_423 rfl ?_
  refine jj_iconst (v := 2) C dL_law_425 (by decide) ?_
  refine jj_iadd (v := nI (6 * n + 2)) C dL_law_426 (rl_addR (kn := 2) (by decide) rfl) ?_
  refine jj_xld C hX hbl hbA (k := 6 * n + 2) (by omega) hL dL_law_427 ?_
  refine jj_aload_n C dL_law_428 rfl ?_
  refine tt_callSW (rest := []) C (lm_redeem hl D cA ak h0 ho (xs (6 * n + 1)) (xs (6 * n + 2)) g k1 ok) [0] _ rfl (rz_pk1 _ _) (by decide) (rz_ndd _ _) rz_dis1 jw_9a599bf1ae jw_7d68a9faa1 jw_2ec6af59de jw_6df602aac0 jn_L_redeem rfl (jj_le rfl) (jj_le rfl) (by show (200 + 64 * n) + 63 ≤ 603072; omega) (by show (20000 + 414 * n) + 408 ≤ 7211114; omega) (jj_le rfl) dL_law_429 rfl (fun _ _ _ hX => hX.elim) (fun rx pl r O => ?_)
  obtain ⟨K1, hx1, ok1, fr1, fa1, g1, v1, rfl, rfl⟩ := O
  refine tt_rot ?_
  have hC1 : rw_C cA h0 x cz e1 e2 pl := ⟨K1, a0, a9, _, hx1.kd k1 (by decide), hx1.kd k2 (by decide), hx1.kd k9 (by decide), ok1, (fr1.at k1 (by decide) (by decide) f1), (fr1.at k2 (by decide) (by decide) f0), (fr1.at k2 (by decide) (by decide) f2), (fa1.at k9 (by decide) (by decide) hu), hcu, (fr1.at k1 (by decide) (by decide) fe1), (fr1.at k1 (by decide) (by decide) fe2)⟩
  refine jj_istore C dL_law_432 (by decide) rfl ?_
  refine jj_aload_n C dL_law_434 rfl ?_
  refine jj_aload_n C dL_law_435 rfl ?_
  refine jj_iload C dL_law_436 rfl ?_
  refine jj_iconst (v := 1) C dL_law_438 (by decide) ?_
  refine jj_iadd (v := nI (6 * n + 1)) C dL_law_439 (rl_addR (kn := 1) (by decide) rfl) ?_
  refine jj_xld C hX hbl hbA (k := 6 * n + 1) (by omega) hL dL_law_440 ?_
  refine jj_aload_n C dL_law_441 rfl ?_
  refine jj_iload C dL_law_442 rfl ?_
  refine jj_iconst (v := 2) C dL_law_444 (by decide) ?_
  refine jj_iadd (v := nI (6 * n + 2)) C dL_law_445 (rl_addR (kn := 2) (by decide) rfl) ?_
  refine jj_xld C hX hbl hbA (k := 6 * n + 2) (by omega) hL dL_law_446 ?_
  obtain ⟨K2, aw, aa, at1, ai, af, ap, b9, B, um, hk, hk9, ok2, hm, h12, h13, hum, hcm, h17, h18, he3, hM, hB0, hBF⟩ := hR
  obtain ⟨f, P, n6, hc, hcp, h6, un6, hKK, hHP⟩ := hM
  refine tt_pools ?_
  obtain ⟨qd, gt, hqd⟩ := tt_recv (cx := []) ok2 hk.1 (by decide) rfl
  refine tt_callV (rest := []) C (rs_redeem hl D cA ak n6 (xs (6 * n + 1)) (xs (6 * n + 2)) B (5000 * (n : Int)) f P hk.1 hk.2.1 hk.2.2.1 hk.2.2.2.1 hk.2.2.2.2.1 hk.2.2.2.2.2.1 hk.2.2.2.2.2.2 (by omega) (by omega) hKK hHP (by omega) (by omega) ⟨by omega, by omega⟩ ok2 hm hc hcp h6) [] _ rfl (rz_pkr _) (by decide) (rz_ndr _) rz_dis0 qd hqd rfl rfl jw_b5234e4602 jw_91dd534c12 jw_fbbba33078 jw_f96c99f44d jw_18505130b2 jn_X11_redeem rfl (jj_le rfl) (jj_le rfl) (by show (200 + 64 * n) + 63 + 0 ≤ 603072; omega) (by show (20000 + 414 * n) + 408 + 0 ≤ 7211114; omega) (jj_le rfl) dL_law_447 rfl (fun _ _ _ hX => hX.elim) (fun rx pm1 r O => ?_)
  obtain ⟨rfl, ok1, hf1, ha1, O⟩ := O
  refine tt_nilr ?_
  refine tt_pools ?_
  have hm_2 := hm.fr hf1 hk.1 (by decide)
  obtain ⟨hM_3, w_4, rfl⟩ := O
  refine jj_istore C dL_law_450 (by decide) rfl ?_
  refine jj_goto (tgt := 1435) C dL_law_452 (by decide) ?_
  have hR9 : rw_R cA (n + 1) h1 x cz e1 e2 pm1 := ⟨K2, aw, aa, at1, ai, af, ap, b9, _, _, hk, hk9, ok1, hm_2, (hf1.at hk.1 (by decide) (by decide) h12), (hf1.at hk.1 (by decide) (by decide) h13), (ha1.at hk9 (by decide) (by decide) hum), hcm, (hf1.at hk.1 (by decide) (by decide) h17), (hf1.at hk.1 (by decide) (by decide) h18), he3, hM_3.mono (Int.le_refl _) (by omega), (by omega), (by omega)⟩
  exact jj_loc [2, 3, 4, 5, 6, 7] rfl (jj_widen (by omega) (by omega) (hb g1 gd x cz e1 e2 pm1 pl hx hC1 hR9))

set_option maxHeartbeats 4000000 in
set_option maxRecDepth 100000 in
theorem law_c7 {p : Program} {l : Launch} {e : Env} {s : State} {m : MethodId} {below : List Frame} {meth : Method} {c : Code} (hl : l.stackTraces = false) {D : va_G} {cA : Nat → ClassId} {ak : (Nat → Nat) × (Nat → Nat)} {A : Nat → Prop} {b L : Nat} {xs : Nat → Int32} {Q : State → Prop} (C : jj_C p l s m #[Value.ref b] meth c code 9 R_law ret D cA A ak) (hX : va_X b L xs s s.heap) (hbl : b < s.heap.size) (hbA : ¬ A b) (hL : L ≤ 3072) {n h0 h1 ho hd : Nat} (hn : 6 * n + 6 ≤ L) (hb : ∀ (g : Nat → Int64) (gd : Nat → UInt64) (x : Nat) (cz : Nat → Int) (e1 : Nat) (e2 : Int32) (pR pC : va_W), x ≤ 400 → rw_C cA h0 x cz e1 e2 pC → rw_R cA (n + 1) h1 x cz e1 e2 pR → jj_J p l e room_1 s m #[Value.ref b] below meth c 9 A Q (jj_X D A (((ho, .inl (cA 2, 1, .inr (.inl g))) :: (hd, .inl (cA 4, 1, .inr (.inr (.inr (.inl gd))))) :: pR) ++ pC)) (200 + 64 * (n + 1)) (20000 + 414 * (n + 1)) 1435 [(0, .ref b), (1, .ref h0), (2, .ref h1), (3, .ref ho), (4, .ref hd), (5, .int (nI (6 * n)))] []) (g : Nat → Int64) (gd : Nat → UInt64) (x : Nat) (cz : Nat → Int) (e1 : Nat) (e2 : Int32) (pR pC : va_W) (hx : x ≤ 400) (hC : rw_C cA h0 x cz e1 e2 pC) (hR : rw_R cA n h1 x cz e1 e2 pR) : jj_J p l e room_1 s m #[Value.ref b] below meth c 9 A Q (jj_X D A (((ho, .inl (cA 2, 1, .inr (.inl g))) :: (hd, .inl (cA 4, 1, .inr (.inr (.inr (.inl gd))))) :: pR) ++ pC)) (200 + 64 * n) (20000 + 414 * n) 455 [(0, .ref b), (1, .ref h0), (2, .ref h1), (3, .ref ho), (4, .ref hd), (5, .int (nI (6 * n)))] [] := by
  have hxi : (nI x).toInt = (x : Int) := rl_ti (by omega)
  obtain ⟨K, a0, a9, u, k1, k2, k9, ok, f1, f0, f2, hu, hcu, fe1, fe2⟩ := hC
  refine jj_aload_n C dL_law_455 rfl ?_
  refine jj_aload_n C dL_law_456 rfl ?_
  refine jj_iload C dL_law_457 rfl ?_
  refine jj_iconst (v := 1) C dL_law_459 (by decide) ?_
  refine jj_iadd (v := nI (6 * n + 1)) C dL_law_460 (rl_addR (kn := 1) (by decide) rfl) ?_
  refine jj_xld C hX hbl hbA (k := 6 * n + 1) (by omega) hL dL_law_461 ?_
  refine jj_aload_n C dL_law_462 rfl ?_
  refine tt_callSW (rest := []) C (lm_withdraw hl D cA ak h0 ho (xs (6 * n + 1)) g k1 ok) [0] _ rfl (rz_pk1 _ _) (by decide) (rz_ndd _ _) rz_dis1 jw_a5282f13c1 jw_a088415dd9 jw_2ec6af59de jw_e29588f0d8 jn_L_withdraw rfl (jj_le rfl) (jj_le rfl) (by show (200 + 64 * n) + 64 ≤ 603072; omega) (by show (20000 + 414 * n) + 414 ≤ 7211114; omega) (jj_le rfl) dL_law_463 rfl (fun _ _ _ hX => hX.elim) (fun rx pl r O => ?_)
  obtain ⟨K1, hx1, ok1, fr1, fa1, g1, v1, rfl, rfl⟩ := O
  refine tt_rot ?_
  have hC1 : rw_C cA h0 x cz e1 e2 pl := ⟨K1, a0, a9, _, hx1.kd k1 (by decide), hx1.kd k2 (by decide), hx1.kd k9 (by decide), ok1, (fr1.at k1 (by decide) (by decide) f1), (fr1.at k2 (by decide) (by decide) f0), (fr1.at k2 (by decide) (by decide) f2), (fa1.at k9 (by decide) (by decide) hu), hcu, (fr1.at k1 (by decide) (by decide) fe1), (fr1.at k1 (by decide) (by decide) fe2)⟩
  refine jj_istore C dL_law_466 (by decide) rfl ?_
  refine jj_aload_n C dL_law_468 rfl ?_
  refine jj_aload_n C dL_law_469 rfl ?_
  refine jj_iload C dL_law_470 rfl ?_
  refine jj_iconst (v := 1) C dL_law_472 (by decide) ?_
  refine jj_iadd (v := nI (6 * n + 1)) C dL_law_473 (rl_addR (kn := 1) (by decide) rfl) ?_
  refine jj_xld C hX hbl hbA (k := 6 * n + 1) (by omega) hL dL_law_474 ?_
  obtain ⟨K2, aw, aa, at1, ai, af, ap, b9, B, um, hk, hk9, ok2, hm, h12, h13, hum, hcm, h17, h18, he3, hM, hB0, hBF⟩ := hR
  obtain ⟨f, P, n6, hc, hcp, h6, un6, hKK, hHP⟩ := hM
  refine tt_pools ?_
  obtain ⟨qd, gt, hqd⟩ := tt_recv (cx := []) ok2 hk.1 (by decide) rfl
  refine tt_callV (rest := []) C (rs_withdraw hl D cA ak n6 (xs (6 * n + 1)) B (5000 * (n : Int)) f P hk.1 hk.2.1 hk.2.2.1 hk.2.2.2.1 hk.2.2.2.2.1 hk.2.2.2.2.2.1 hk.2.2.2.2.2.2 (by omega) (by omega) hKK hHP (by omega) (by omega) ⟨by omega, by omega⟩ ok2 hm hc hcp h6) [] _ rfl (rz_pkr _) (by decide) (rz_ndr _) rz_dis0 qd hqd rfl rfl jw_5e4482e8ec jw_7fecc15388 jw_92e2f5da72 jw_f96c99f44d jw_d97444851e jn_X11_withdraw rfl (jj_le rfl) (jj_le rfl) (by show (200 + 64 * n) + 64 + 0 ≤ 603072; omega) (by show (20000 + 414 * n) + 414 + 0 ≤ 7211114; omega) (jj_le rfl) dL_law_475 rfl (fun _ _ _ hX => hX.elim) (fun rx pm1 r O => ?_)
  obtain ⟨rfl, ok1, hf1, ha1, O⟩ := O
  refine tt_nilr ?_
  refine tt_pools ?_
  have hm_2 := hm.fr hf1 hk.1 (by decide)
  obtain ⟨hM_3, w_4, rfl⟩ := O
  refine jj_lstore C dL_law_478 (by decide) rfl ?_
  refine jj_goto (tgt := 1435) C dL_law_480 (by decide) ?_
  have hR9 : rw_R cA (n + 1) h1 x cz e1 e2 pm1 := ⟨K2, aw, aa, at1, ai, af, ap, b9, _, _, hk, hk9, ok1, hm_2, (hf1.at hk.1 (by decide) (by decide) h12), (hf1.at hk.1 (by decide) (by decide) h13), (ha1.at hk9 (by decide) (by decide) hum), hcm, (hf1.at hk.1 (by decide) (by decide) h17), (hf1.at hk.1 (by decide) (by decide) h18), he3, hM_3.mono (Int.le_refl _) (by omega), (by omega), (by omega)⟩
  exact jj_loc [2, 3, 4, 5, 6, 7] rfl (jj_widen (by omega) (by omega) (hb g1 gd x cz e1 e2 pm1 pl hx hC1 hR9))

set_option maxHeartbeats 4000000 in
set_option maxRecDepth 100000 in
theorem law_c8 {p : Program} {l : Launch} {e : Env} {s : State} {m : MethodId} {below : List Frame} {meth : Method} {c : Code} (hl : l.stackTraces = false) {D : va_G} {cA : Nat → ClassId} {ak : (Nat → Nat) × (Nat → Nat)} {A : Nat → Prop} {b L : Nat} {xs : Nat → Int32} {Q : State → Prop} (C : jj_C p l s m #[Value.ref b] meth c code 9 R_law ret D cA A ak) (hX : va_X b L xs s s.heap) (hbl : b < s.heap.size) (hbA : ¬ A b) (hL : L ≤ 3072) {n h0 h1 ho hd : Nat} (hn : 6 * n + 6 ≤ L) (hb : ∀ (g : Nat → Int64) (gd : Nat → UInt64) (x : Nat) (cz : Nat → Int) (e1 : Nat) (e2 : Int32) (pR pC : va_W), x ≤ 400 → rw_C cA h0 x cz e1 e2 pC → rw_R cA (n + 1) h1 x cz e1 e2 pR → jj_J p l e room_1 s m #[Value.ref b] below meth c 9 A Q (jj_X D A (((ho, .inl (cA 2, 1, .inr (.inl g))) :: (hd, .inl (cA 4, 1, .inr (.inr (.inr (.inl gd))))) :: pR) ++ pC)) (200 + 64 * (n + 1)) (20000 + 414 * (n + 1)) 1435 [(0, .ref b), (1, .ref h0), (2, .ref h1), (3, .ref ho), (4, .ref hd), (5, .int (nI (6 * n)))] []) (g : Nat → Int64) (gd : Nat → UInt64) (x : Nat) (cz : Nat → Int) (e1 : Nat) (e2 : Int32) (pR pC : va_W) (hx : x ≤ 400) (hC : rw_C cA h0 x cz e1 e2 pC) (hR : rw_R cA n h1 x cz e1 e2 pR) : jj_J p l e room_1 s m #[Value.ref b] below meth c 9 A Q (jj_X D A (((ho, .inl (cA 2, 1, .inr (.inl g))) :: (hd, .inl (cA 4, 1, .inr (.inr (.inr (.inl gd))))) :: pR) ++ pC)) (200 + 64 * n) (20000 + 414 * n) 483 [(0, .ref b), (1, .ref h0), (2, .ref h1), (3, .ref ho), (4, .ref hd), (5, .int (nI (6 * n)))] [] := by
  have hxi : (nI x).toInt = (x : Int) := rl_ti (by omega)
  obtain ⟨K, a0, a9, u, k1, k2, k9, ok, f1, f0, f2, hu, hcu, fe1, fe2⟩ := hC
  refine jj_aload_n C dL_law_483 rfl ?_
  obtain ⟨qc, gs, hqc⟩ := tt_recv (cx := []) ok k1 (by decide) rfl
  refine tt_callV (rest := []) C (tc_X10_deal_1 hl D cA ak h0 k1 ok) [] _ rfl (rz_pkr _) (by decide) (rz_ndr _) rz_dis0 qc hqc rfl rfl jw_b5e94a7020 jw_cd72180a99 jw_37138cd566 jw_6f6d707074 jw_d55abbfc57 jn_X10_deal rfl (jj_le rfl) (jj_le rfl) (by show (200 + 64 * n) + 63 ≤ 603072; omega) (by show (20000 + 414 * n) + 408 ≤ 7211114; omega) (jj_le rfl) dL_law_484 rfl (fun _ _ _ hX => hX.elim) (fun rx pl r O => ?_)
  obtain ⟨K1, hx1, rfl, ok1, fr1, fa1, ⟨v1, -, -, rfl⟩⟩ := O
  refine tt_nilr ?_
  have hC1 : rw_C cA h0 x cz e1 e2 pl := ⟨K1, a0, a9, _, hx1.kd k1 (by decide), hx1.kd k2 (by decide), hx1.kd k9 (by decide), ok1, (fr1.at k1 (by decide) (by decide) f1), (fr1.at k2 (by decide) (by decide) f0), (fr1.at k2 (by decide) (by decide) f2), (fa1.at k9 (by decide) (by decide) hu), hcu, (fr1.at k1 (by decide) (by decide) fe1), (fr1.at k1 (by decide) (by decide) fe2)⟩
  refine jj_pop C dL_law_487 rfl ?_
  refine jj_aload_n C dL_law_488 rfl ?_
  obtain ⟨K2, aw, aa, at1, ai, af, ap, b9, B, um, hk, hk9, ok2, hm, h12, h13, hum, hcm, h17, h18, he3, hM, hB0, hBF⟩ := hR
  obtain ⟨f, P, n6, hc, hcp, h6, un6, hKK, hHP⟩ := hM
  refine tt_pools ?_
  obtain ⟨qd, gt, hqd⟩ := tt_recv (cx := []) ok2 hk.1 (by decide) rfl
  refine tt_callV (rest := []) C (rs_deal hl D cA ak n6 B (5000 * (n : Int)) f P hk.1 hk.2.1 hk.2.2.1 hk.2.2.2.1 hk.2.2.2.2.1 hk.2.2.2.2.2.1 hk.2.2.2.2.2.2 (by omega) (by omega) hKK hHP (by omega) (by omega) ⟨by omega, by omega⟩ ok2 hm hc hcp h6) [] _ rfl (rz_pkr _) (by decide) (rz_ndr _) rz_dis0 qd hqd rfl rfl jw_1edd1a1e0d jw_e10cc34f4c jw_7e019ceded jw_f96c99f44d jw_d0f730d8b3 jn_X11_deal rfl (jj_le rfl) (jj_le rfl) (by show (200 + 64 * n) + 63 + 0 ≤ 603072; omega) (by show (20000 + 414 * n) + 408 + 0 ≤ 7211114; omega) (jj_le rfl) dL_law_489 rfl (fun _ _ _ hX => hX.elim) (fun rx pm1 r O => ?_)
  obtain ⟨rfl, ok1, hf1, ha1, O⟩ := O
  refine tt_nilr ?_
  refine tt_pools ?_
  have hm_2 := hm.fr hf1 hk.1 (by decide)
  obtain ⟨hM_3, w_4, rfl⟩ := O
  refine jj_pop C dL_law_492 rfl ?_
  refine jj_goto (tgt := 1435) C dL_law_493 (by decide) ?_
  have hR9 : rw_R cA (n + 1) h1 x cz e1 e2 pm1 := ⟨K2, aw, aa, at1, ai, af, ap, b9, _, _, hk, hk9, ok1, hm_2, (hf1.at hk.1 (by decide) (by decide) h12), (hf1.at hk.1 (by decide) (by decide) h13), (ha1.at hk9 (by decide) (by decide) hum), hcm, (hf1.at hk.1 (by decide) (by decide) h17), (hf1.at hk.1 (by decide) (by decide) h18), he3, hM_3.mono (Int.le_refl _) (by omega), (by omega), (by omega)⟩
  exact jj_loc [0, 1, 2, 3, 4, 5] rfl (jj_widen (by omega) (by omega) (hb g gd x cz e1 e2 pm1 pl hx hC1 hR9))

set_option maxHeartbeats 4000000 in
set_option maxRecDepth 100000 in
theorem law_c9 {p : Program} {l : Launch} {e : Env} {s : State} {m : MethodId} {below : List Frame} {meth : Method} {c : Code} (hl : l.stackTraces = false) {D : va_G} {cA : Nat → ClassId} {ak : (Nat → Nat) × (Nat → Nat)} {A : Nat → Prop} {b L : Nat} {xs : Nat → Int32} {Q : State → Prop} (C : jj_C p l s m #[Value.ref b] meth c code 9 R_law ret D cA A ak) (hX : va_X b L xs s s.heap) (hbl : b < s.heap.size) (hbA : ¬ A b) (hL : L ≤ 3072) {n h0 h1 ho hd : Nat} (hn : 6 * n + 6 ≤ L) (hb : ∀ (g : Nat → Int64) (gd : Nat → UInt64) (x : Nat) (cz : Nat → Int) (e1 : Nat) (e2 : Int32) (pR pC : va_W), x ≤ 400 → rw_C cA h0 x cz e1 e2 pC → rw_R cA (n + 1) h1 x cz e1 e2 pR → jj_J p l e room_1 s m #[Value.ref b] below meth c 9 A Q (jj_X D A (((ho, .inl (cA 2, 1, .inr (.inl g))) :: (hd, .inl (cA 4, 1, .inr (.inr (.inr (.inl gd))))) :: pR) ++ pC)) (200 + 64 * (n + 1)) (20000 + 414 * (n + 1)) 1435 [(0, .ref b), (1, .ref h0), (2, .ref h1), (3, .ref ho), (4, .ref hd), (5, .int (nI (6 * n)))] []) (g : Nat → Int64) (gd : Nat → UInt64) (x : Nat) (cz : Nat → Int) (e1 : Nat) (e2 : Int32) (pR pC : va_W) (hx : x ≤ 400) (hC : rw_C cA h0 x cz e1 e2 pC) (hR : rw_R cA n h1 x cz e1 e2 pR) : jj_J p l e room_1 s m #[Value.ref b] below meth c 9 A Q (jj_X D A (((ho, .inl (cA 2, 1, .inr (.inl g))) :: (hd, .inl (cA 4, 1, .inr (.inr (.inr (.inl gd))))) :: pR) ++ pC)) (200 + 64 * n) (20000 + 414 * n) 496 [(0, .ref b), (1, .ref h0), (2, .ref h1), (3, .ref ho), (4, .ref hd), (5, .int (nI (6 * n)))] [] := by
  have hxi : (nI x).toInt = (x : Int) := rl_ti (by omega)
  obtain ⟨K, a0, a9, u, k1, k2, k9, ok, f1, f0, f2, hu, hcu, fe1, fe2⟩ := hC
  refine jj_aload_n C dL_law_496 rfl ?_
  refine jj_aload_n C dL_law_497 rfl ?_
  refine jj_iload C dL_law_498 rfl ?_
  refine jj_iconst (v := 1) C dL_law_500 (by decide) ?_
  refine jj_iadd (v := nI (6 * n + 1)) C dL_law_501 (rl_addR (kn := 1) (by decide) rfl) ?_
  refine jj_xld C hX hbl hbA (k := 6 * n + 1) (by omega) hL dL_law_502 ?_
  refine jj_aload_n C dL_law_503 rfl ?_
  refine tt_callSW (rest := []) C (lm_earn hl D cA ak h0 ho (xs (6 * n + 1)) g k1 ok) [0] _ rfl (rz_pk1 _ _) (by decide) (rz_ndd _ _) rz_dis1 jw_5d5c438784 jw_9d8d3d7c17 jw_2ec6af59de jw_dc281b9698 jn_L_earn rfl (jj_le rfl) (jj_le rfl) (by show (200 + 64 * n) + 63 ≤ 603072; omega) (by show (20000 + 414 * n) + 408 ≤ 7211114; omega) (jj_le rfl) dL_law_504 rfl (fun _ _ _ hX => hX.elim) (fun rx pl r O => ?_)
  obtain ⟨K1, hx1, ok1, fr1, fa1, g1, v1, rfl, rfl⟩ := O
  refine tt_rot ?_
  have hC1 : rw_C cA h0 x cz e1 e2 pl := ⟨K1, a0, a9, _, hx1.kd k1 (by decide), hx1.kd k2 (by decide), hx1.kd k9 (by decide), ok1, (fr1.at k1 (by decide) (by decide) f1), (fr1.at k2 (by decide) (by decide) f0), (fr1.at k2 (by decide) (by decide) f2), (fa1.at k9 (by decide) (by decide) hu), hcu, (fr1.at k1 (by decide) (by decide) fe1), (fr1.at k1 (by decide) (by decide) fe2)⟩
  refine jj_istore C dL_law_507 (by decide) rfl ?_
  refine jj_aload_n C dL_law_509 rfl ?_
  refine jj_aload_n C dL_law_510 rfl ?_
  refine jj_iload C dL_law_511 rfl ?_
  refine jj_iconst (v := 1) C dL_law_513 (by decide) ?_
  refine jj_iadd (v := nI (6 * n + 1)) C dL_law_514 (rl_addR (kn := 1) (by decide) rfl) ?_
  refine jj_xld C hX hbl hbA (k := 6 * n + 1) (by omega) hL dL_law_515 ?_
  obtain ⟨K2, aw, aa, at1, ai, af, ap, b9, B, um, hk, hk9, ok2, hm, h12, h13, hum, hcm, h17, h18, he3, hM, hB0, hBF⟩ := hR
  obtain ⟨f, P, n6, hc, hcp, h6, un6, hKK, hHP⟩ := hM
  refine tt_pools ?_
  obtain ⟨qd, gt, hqd⟩ := tt_recv (cx := []) ok2 hk.1 (by decide) rfl
  refine tt_callV (rest := []) C (rs_earn hl D cA ak n6 (xs (6 * n + 1)) B (5000 * (n : Int)) f P hk.1 hk.2.1 hk.2.2.1 hk.2.2.2.1 hk.2.2.2.2.1 hk.2.2.2.2.2.1 hk.2.2.2.2.2.2 (by omega) (by omega) hKK hHP (by omega) (by omega) ⟨by omega, by omega⟩ ok2 hm hc hcp h6) [] _ rfl (rz_pkr _) (by decide) (rz_ndr _) rz_dis0 qd hqd rfl rfl jw_46abf0a8ea jw_3f3a12e018 jw_9a4dafb03f jw_f96c99f44d jw_addfde654f jn_X11_earn rfl (jj_le rfl) (jj_le rfl) (by show (200 + 64 * n) + 63 + 0 ≤ 603072; omega) (by show (20000 + 414 * n) + 408 + 0 ≤ 7211114; omega) (jj_le rfl) dL_law_516 rfl (fun _ _ _ hX => hX.elim) (fun rx pm1 r O => ?_)
  obtain ⟨rfl, ok1, hf1, ha1, O⟩ := O
  refine tt_nilr ?_
  refine tt_pools ?_
  have hm_2 := hm.fr hf1 hk.1 (by decide)
  obtain ⟨hM_3, w_4, rfl⟩ := O
  refine jj_lstore C dL_law_519 (by decide) rfl ?_
  refine jj_goto (tgt := 1435) C dL_law_521 (by decide) ?_
  have hR9 : rw_R cA (n + 1) h1 x cz e1 e2 pm1 := ⟨K2, aw, aa, at1, ai, af, ap, b9, _, _, hk, hk9, ok1, hm_2, (hf1.at hk.1 (by decide) (by decide) h12), (hf1.at hk.1 (by decide) (by decide) h13), (ha1.at hk9 (by decide) (by decide) hum), hcm, (hf1.at hk.1 (by decide) (by decide) h17), (hf1.at hk.1 (by decide) (by decide) h18), he3, hM_3.mono (Int.le_refl _) (by omega), (by omega), (by omega)⟩
  exact jj_loc [2, 3, 4, 5, 6, 7] rfl (jj_widen (by omega) (by omega) (hb g1 gd x cz e1 e2 pm1 pl hx hC1 hR9))

set_option maxHeartbeats 4000000 in
set_option maxRecDepth 100000 in
theorem law_c10 {p : Program} {l : Launch} {e : Env} {s : State} {m : MethodId} {below : List Frame} {meth : Method} {c : Code} (hl : l.stackTraces = false) {D : va_G} {cA : Nat → ClassId} {ak : (Nat → Nat) × (Nat → Nat)} {A : Nat → Prop} {b L : Nat} {xs : Nat → Int32} {Q : State → Prop} (C : jj_C p l s m #[Value.ref b] meth c code 9 R_law ret D cA A ak) (hX : va_X b L xs s s.heap) (hbl : b < s.heap.size) (hbA : ¬ A b) (hL : L ≤ 3072) {n h0 h1 ho hd : Nat} (hn : 6 * n + 6 ≤ L) (hb : ∀ (g : Nat → Int64) (gd : Nat → UInt64) (x : Nat) (cz : Nat → Int) (e1 : Nat) (e2 : Int32) (pR pC : va_W), x ≤ 400 → rw_C cA h0 x cz e1 e2 pC → rw_R cA (n + 1) h1 x cz e1 e2 pR → jj_J p l e room_1 s m #[Value.ref b] below meth c 9 A Q (jj_X D A (((ho, .inl (cA 2, 1, .inr (.inl g))) :: (hd, .inl (cA 4, 1, .inr (.inr (.inr (.inl gd))))) :: pR) ++ pC)) (200 + 64 * (n + 1)) (20000 + 414 * (n + 1)) 1435 [(0, .ref b), (1, .ref h0), (2, .ref h1), (3, .ref ho), (4, .ref hd), (5, .int (nI (6 * n)))] []) (g : Nat → Int64) (gd : Nat → UInt64) (x : Nat) (cz : Nat → Int) (e1 : Nat) (e2 : Int32) (pR pC : va_W) (hx : x ≤ 400) (hC : rw_C cA h0 x cz e1 e2 pC) (hR : rw_R cA n h1 x cz e1 e2 pR) : jj_J p l e room_1 s m #[Value.ref b] below meth c 9 A Q (jj_X D A (((ho, .inl (cA 2, 1, .inr (.inl g))) :: (hd, .inl (cA 4, 1, .inr (.inr (.inr (.inl gd))))) :: pR) ++ pC)) (200 + 64 * n) (20000 + 414 * n) 524 [(0, .ref b), (1, .ref h0), (2, .ref h1), (3, .ref ho), (4, .ref hd), (5, .int (nI (6 * n)))] [] := by
  have hxi : (nI x).toInt = (x : Int) := rl_ti (by omega)
  obtain ⟨K, a0, a9, u, k1, k2, k9, ok, f1, f0, f2, hu, hcu, fe1, fe2⟩ := hC
  refine jj_aload_n C dL_law_524 rfl ?_
  refine jj_aload_n C dL_law_525 rfl ?_
  refine jj_iload C dL_law_526 rfl ?_
  refine jj_iconst (v := 1) C dL_law_528 (by decide) ?_
  refine jj_iadd (v := nI (6 * n + 1)) C dL_law_529 (rl_addR (kn := 1) (by decide) rfl) ?_
  refine jj_xld C hX hbl hbA (k := 6 * n + 1) (by omega) hL dL_law_530 ?_
  refine jj_aload_n C dL_law_531 rfl ?_
  refine tt_callSW (rest := []) C (lm_passDays hl D cA ak h0 ho (xs (6 * n + 1)) g k1 ok) [0] _ rfl (rz_pk1 _ _) (by decide) (rz_ndd _ _) rz_dis1 jw_f16ac29bed jw_3cbb758e23 jw_2ec6af59de jw_9f20fb149b jn_L_passDays rfl (jj_le rfl) (jj_le rfl) (by show (200 + 64 * n) + 63 ≤ 603072; omega) (by show (20000 + 414 * n) + 408 ≤ 7211114; omega) (jj_le rfl) dL_law_532 rfl (fun _ _ _ hX => hX.elim) (fun rx pl r O => ?_)
  obtain ⟨K1, hx1, ok1, fr1, fa1, g1, v1, rfl, rfl⟩ := O
  refine tt_rot ?_
  have hC1 : rw_C cA h0 x cz e1 e2 pl := ⟨K1, a0, a9, _, hx1.kd k1 (by decide), hx1.kd k2 (by decide), hx1.kd k9 (by decide), ok1, (fr1.at k1 (by decide) (by decide) f1), (fr1.at k2 (by decide) (by decide) f0), (fr1.at k2 (by decide) (by decide) f2), (fa1.at k9 (by decide) (by decide) hu), hcu, (fr1.at k1 (by decide) (by decide) fe1), (fr1.at k1 (by decide) (by decide) fe2)⟩
  refine jj_istore C dL_law_535 (by decide) rfl ?_
  refine jj_aload_n C dL_law_537 rfl ?_
  refine jj_aload_n C dL_law_538 rfl ?_
  refine jj_iload C dL_law_539 rfl ?_
  refine jj_iconst (v := 1) C dL_law_541 (by decide) ?_
  refine jj_iadd (v := nI (6 * n + 1)) C dL_law_542 (rl_addR (kn := 1) (by decide) rfl) ?_
  refine jj_xld C hX hbl hbA (k := 6 * n + 1) (by omega) hL dL_law_543 ?_
  obtain ⟨K2, aw, aa, at1, ai, af, ap, b9, B, um, hk, hk9, ok2, hm, h12, h13, hum, hcm, h17, h18, he3, hM, hB0, hBF⟩ := hR
  obtain ⟨f, P, n6, hc, hcp, h6, un6, hKK, hHP⟩ := hM
  refine tt_pools ?_
  obtain ⟨qd, gt, hqd⟩ := tt_recv (cx := []) ok2 hk.1 (by decide) rfl
  refine tt_callV (rest := []) C (rs_passDays hl D cA ak n6 (xs (6 * n + 1)) B (5000 * (n : Int)) f P hk.1 hk.2.1 hk.2.2.1 hk.2.2.2.1 hk.2.2.2.2.1 hk.2.2.2.2.2.1 hk.2.2.2.2.2.2 (by omega) (by omega) hKK hHP (by omega) (by omega) ⟨by omega, by omega⟩ ok2 hm hc hcp h6) [] _ rfl (rz_pkr _) (by decide) (rz_ndr _) rz_dis0 qd hqd rfl rfl jw_93fcb04cf7 jw_e33582801a jw_1d8f1b0c28 jw_f96c99f44d jw_0cf9781f39 jn_X11_passDays rfl (jj_le rfl) (jj_le rfl) (by show (200 + 64 * n) + 63 + 0 ≤ 603072; omega) (by show (20000 + 414 * n) + 408 + 0 ≤ 7211114; omega) (jj_le rfl) dL_law_544 rfl (fun _ _ _ hX => hX.elim) (fun rx pm1 r O => ?_)
  obtain ⟨rfl, ok1, hf1, ha1, O⟩ := O
  refine tt_nilr ?_
  refine tt_pools ?_
  have hm_2 := hm.fr hf1 hk.1 (by decide)
  obtain ⟨hM_3, w_4, rfl⟩ := O
  refine jj_lstore C dL_law_547 (by decide) rfl ?_
  refine jj_goto (tgt := 1435) C dL_law_549 (by decide) ?_
  have hR9 : rw_R cA (n + 1) h1 x cz e1 e2 pm1 := ⟨K2, aw, aa, at1, ai, af, ap, b9, _, _, hk, hk9, ok1, hm_2, (hf1.at hk.1 (by decide) (by decide) h12), (hf1.at hk.1 (by decide) (by decide) h13), (ha1.at hk9 (by decide) (by decide) hum), hcm, (hf1.at hk.1 (by decide) (by decide) h17), (hf1.at hk.1 (by decide) (by decide) h18), he3, hM_3.mono (Int.le_refl _) (by omega), (by omega), (by omega)⟩
  exact jj_loc [2, 3, 4, 5, 6, 7] rfl (jj_widen (by omega) (by omega) (hb g1 gd x cz e1 e2 pm1 pl hx hC1 hR9))

