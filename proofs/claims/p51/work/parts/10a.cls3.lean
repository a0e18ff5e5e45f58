theorem fl_RX6_12 : tvFl RX6 12 6 0 := ⟨_, _, _, rfl, by decide, rfl, tvIn_6, rfl, Or.inl (tvgc (tvc_3 (List.mem_of_getElem? (i := 128) (by decide +kernel))) rfl)⟩
theorem fl_RX6_21 : tvFl RX6 21 6 1 := ⟨_, _, _, rfl, by decide, rfl, tvIn_6, rfl, Or.inl (tvgc (tvc_3 (List.mem_of_getElem? (i := 130) (by decide +kernel))) rfl)⟩
theorem fl_RX6_28 : tvFl RX6 28 6 2 := ⟨_, _, _, rfl, by decide, rfl, tvIn_6, rfl, Or.inl (tvgc (tvc_3 (List.mem_of_getElem? (i := 132) (by decide +kernel))) rfl)⟩
theorem fl_RX6_35 : tvFl RX6 35 6 3 := ⟨_, _, _, rfl, by decide, rfl, tvIn_6, rfl, Or.inl (tvgc (tvc_3 (List.mem_of_getElem? (i := 134) (by decide +kernel))) rfl)⟩
theorem fl_RX6_52 : tvFl RX6 52 6 4 := ⟨_, _, _, rfl, by decide, rfl, tvIn_6, rfl, Or.inl (tvgc (tvc_3 (List.mem_of_getElem? (i := 136) (by decide +kernel))) rfl)⟩
theorem fl_RX6_56 : tvFl RX6 56 6 5 := ⟨_, _, _, rfl, by decide, rfl, tvIn_6, rfl, Or.inl (tvgc (tvc_3 (List.mem_of_getElem? (i := 138) (by decide +kernel))) rfl)⟩
theorem fl_RX6_59 : tvFl RX6 59 6 6 := ⟨_, _, _, rfl, by decide, rfl, tvIn_6, rfl, Or.inl (tvgc (tvc_3 (List.mem_of_getElem? (i := 140) (by decide +kernel))) rfl)⟩
theorem fl_RX6_62 : tvFl RX6 62 6 7 := ⟨_, _, _, rfl, by decide, rfl, tvIn_6, rfl, Or.inl (tvgc (tvc_3 (List.mem_of_getElem? (i := 141) (by decide +kernel))) rfl)⟩
theorem fl_RX6_65 : tvFl RX6 65 6 8 := ⟨_, _, _, rfl, by decide, rfl, tvIn_6, rfl, Or.inl (tvgc (tvc_3 (List.mem_of_getElem? (i := 142) (by decide +kernel))) rfl)⟩
theorem fl_RX6_73 : tvFl RX6 73 2 0 := ⟨_, _, _, rfl, by decide, rfl, tvIn_2, rfl, Or.inr ⟨"TideVault", tvn 559 (by decide +kernel) rfl⟩⟩
theorem fl_RX6_79 : tvFl RX6 79 0 0 := ⟨_, _, _, rfl, by decide, rfl, tvIn_0, rfl, Or.inr ⟨"TideVault", tvn 580 (by decide +kernel) rfl⟩⟩
theorem fw_6_4 : tvFw 6 4 := ⟨_, _, _, rfl, tyX6_ok, nmX6, rfl⟩
theorem fw_6_5 : tvFw 6 5 := ⟨_, _, _, rfl, tyX6_ok, nmX6, rfl⟩
theorem fw_6_6 : tvFw 6 6 := ⟨_, _, _, rfl, tyX6_ok, nmX6, rfl⟩
theorem fw_6_7 : tvFw 6 7 := ⟨_, _, _, rfl, tyX6_ok, nmX6, rfl⟩
theorem fw_6_8 : tvFw 6 8 := ⟨_, _, _, rfl, tyX6_ok, nmX6, rfl⟩
theorem ml_RX6_39 : Cond.methodLink RX6 39 yX7_copyFrom ∈ tvGW := tvgc (tvc_2 (List.mem_of_getElem? (i := 19) (by decide +kernel))) rfl
theorem ml_RX6_43 : Cond.methodLink RX6 43 yX2_copyFrom ∈ tvGW := tvgc (tvc_2 (List.mem_of_getElem? (i := 23) (by decide +kernel))) rfl
theorem ml_RX6_46 : Cond.methodLink RX6 46 yX0_copyFrom ∈ tvGW := tvgc (tvc_2 (List.mem_of_getElem? (i := 30) (by decide +kernel))) rfl
theorem ml_RX6_49 : Cond.methodLink RX6 49 yX4_copyFrom ∈ tvGW := tvgc (tvc_2 (List.mem_of_getElem? (i := 35) (by decide +kernel))) rfl
theorem ml_RX6_69 : Cond.methodLink RX6 69 yX6_isCode ∈ tvGW := tvgc (tvc_2 (List.mem_of_getElem? (i := 53) (by decide +kernel))) rfl
theorem ml_RX6_76 : Cond.methodLink RX6 76 yX2_has ∈ tvGW := tvgc (tvc_4 (List.mem_of_getElem? (i := 34) (by decide +kernel))) rfl
theorem ml_RX6_80 : Cond.methodLink RX6 80 yX0_has ∈ tvGW := tvgc (tvc_2 (List.mem_of_getElem? (i := 128) (by decide +kernel))) rfl
theorem ml_RX6_81 : Cond.methodLink RX6 81 yX0_belongsTo ∈ tvGW := tvgc (tvc_4 (List.mem_of_getElem? (i := 59) (by decide +kernel))) rfl
theorem ml_RX6_85 : Cond.methodLink RX6 85 yX6_isLocked ∈ tvGW := tvgc (tvc_4 (List.mem_of_getElem? (i := 63) (by decide +kernel))) rfl
theorem ml_RX6_88 : Cond.methodLink RX6 88 yX0_awaits ∈ tvGW := tvgc (tvc_4 (List.mem_of_getElem? (i := 75) (by decide +kernel))) rfl
theorem ml_RX6_91 : Cond.methodLink RX6 91 yX2_codeOf ∈ tvGW := tvgc (tvc_4 (List.mem_of_getElem? (i := 83) (by decide +kernel))) rfl
theorem ml_RX6_95 : Cond.methodLink RX6 95 yX0_pearlsIn ∈ tvGW := tvgc (tvc_2 (List.mem_of_getElem? (i := 142) (by decide +kernel))) rfl
theorem ml_RX6_98 : Cond.methodLink RX6 98 yX0_statusOf ∈ tvGW := tvgc (tvc_2 (List.mem_of_getElem? (i := 129) (by decide +kernel))) rfl
theorem ml_RX6_152 : Cond.methodLink RX6 152 yX6_shut ∈ tvGW := tvgc (tvc_2 (List.mem_of_getElem? (i := 191) (by decide +kernel))) rfl
theorem ml_RX6_158 : Cond.methodLink RX6 158 yX6_hearRightCode ∈ tvGW := tvgc (tvc_4 (List.mem_of_getElem? (i := 116) (by decide +kernel))) rfl
theorem ml_RX6_162 : Cond.methodLink RX6 162 yX0_halfOpen ∈ tvGW := tvgc (tvc_4 (List.mem_of_getElem? (i := 120) (by decide +kernel))) rfl
theorem ml_RX6_166 : Cond.methodLink RX6 166 yX0_startDelay ∈ tvGW := tvgc (tvc_4 (List.mem_of_getElem? (i := 125) (by decide +kernel))) rfl
theorem ml_RX6_169 : Cond.methodLink RX6 169 yX6_isLow ∈ tvGW := tvgc (tvc_2 (List.mem_of_getElem? (i := 162) (by decide +kernel))) rfl
theorem ml_RX6_173 : Cond.methodLink RX6 173 yX6_openIfDue ∈ tvGW := tvgc (tvc_2 (List.mem_of_getElem? (i := 174) (by decide +kernel))) rfl
theorem ml_RX6_176 : Cond.methodLink RX6 176 yX2_attemptsOf ∈ tvGW := tvgc (tvc_4 (List.mem_of_getElem? (i := 100) (by decide +kernel))) rfl
theorem ml_RX6_179 : Cond.methodLink RX6 179 yX2_setCode ∈ tvGW := tvgc (tvc_4 (List.mem_of_getElem? (i := 152) (by decide +kernel))) rfl
theorem ml_RX6_183 : Cond.methodLink RX6 183 yX6_raiseAlarm ∈ tvGW := tvgc (tvc_4 (List.mem_of_getElem? (i := 95) (by decide +kernel))) rfl
theorem ml_RX6_186 : Cond.methodLink RX6 186 yX4_add ∈ tvGW := tvgc (tvc_2 (List.mem_of_getElem? (i := 134) (by decide +kernel))) rfl
theorem ml_RX6_189 : Cond.methodLink RX6 189 yX2_setAttempts ∈ tvGW := tvgc (tvc_4 (List.mem_of_getElem? (i := 104) (by decide +kernel))) rfl
theorem ml_RX6_192 : Cond.methodLink RX6 192 yX2_lock ∈ tvGW := tvgc (tvc_4 (List.mem_of_getElem? (i := 108) (by decide +kernel))) rfl
theorem ml_RX6_195 : Cond.methodLink RX6 195 yX0_addPearl ∈ tvGW := tvgc (tvc_4 (List.mem_of_getElem? (i := 171) (by decide +kernel))) rfl
theorem ml_RX6_198 : Cond.methodLink RX6 198 yX0_takeBest ∈ tvGW := tvgc (tvc_4 (List.mem_of_getElem? (i := 198) (by decide +kernel))) rfl
theorem ml_RX6_201 : Cond.methodLink RX6 201 yX0_become ∈ tvGW := tvgc (tvc_2 (List.mem_of_getElem? (i := 138) (by decide +kernel))) rfl
theorem ml_RX6_203 : Cond.methodLink RX6 203 yX6_minute ∈ tvGW := tvgc (tvc_2 (List.mem_of_getElem? (i := 158) (by decide +kernel))) rfl
theorem ml_RX6_207 : Cond.methodLink RX6 207 yX0_countDown ∈ tvGW := tvgc (tvc_2 (List.mem_of_getElem? (i := 170) (by decide +kernel))) rfl
theorem ml_RX6_210 : Cond.methodLink RX6 210 yX0_isOverdue ∈ tvGW := tvgc (tvc_2 (List.mem_of_getElem? (i := 182) (by decide +kernel))) rfl
theorem ml_RX6_213 : Cond.methodLink RX6 213 yX0_remainingOf ∈ tvGW := tvgc (tvc_2 (List.mem_of_getElem? (i := 178) (by decide +kernel))) rfl
theorem ml_RX6_216 : Cond.methodLink RX6 216 yX7_lowByFormula ∈ tvGW := tvgc (tvc_2 (List.mem_of_getElem? (i := 208) (by decide +kernel))) rfl
theorem ml_RX6_219 : Cond.methodLink RX6 219 yX6_hasJustOpened ∈ tvGW := tvgc (tvc_6 (List.mem_of_getElem? (i := 232) (by decide +kernel))) rfl
theorem ml_RX6_222 : Cond.methodLink RX6 222 yX0_sinceOf ∈ tvGW := tvgc (tvc_6 (List.mem_of_getElem? (i := 236) (by decide +kernel))) rfl
theorem ml_RX6_225 : Cond.methodLink RX6 225 yX7_lowByCounting ∈ tvGW := tvgc (tvc_7 (List.mem_of_getElem? (i := 54) (by decide +kernel))) rfl
theorem ml_RX6_228 : Cond.methodLink RX6 228 yX7_isLowAt ∈ tvGW := tvgc (tvc_2 (List.mem_of_getElem? (i := 166) (by decide +kernel))) rfl
theorem ml_RX6_231 : Cond.methodLink RX6 231 yX2_lockedFor ∈ tvGW := tvgc (tvc_4 (List.mem_of_getElem? (i := 67) (by decide +kernel))) rfl
theorem ml_RX6_234 : Cond.methodLink RX6 234 yJ9_min_7cf53 ∈ tvGW := tvgc (tvc_4 (List.mem_of_getElem? (i := 99) (by decide +kernel))) rfl
theorem yk_X6_copyFrom : tvYk yX6_copyFrom cX6_copyFrom 2 none 1 := ⟨tvgc (tvc_2 (List.mem_of_getElem? (i := 18) (by decide +kernel))) rfl, tvgc (tvc_1 (List.mem_of_getElem? (i := 2) (by decide +kernel))) rfl, by decide +kernel, by decide +kernel, plainFor_of_name (by decide +kernel)⟩
theorem yi_X6_copyFrom : tvYi yX6_copyFrom := ⟨tvgc (tvc_2 (List.mem_of_getElem? (i := 16) (by decide +kernel))) rfl, tvgc (tvc_2 (List.mem_of_getElem? (i := 17) (by decide +kernel))) rfl⟩
theorem yk_X6_doLowMinutesAgree : tvYk yX6_doLowMinutesAgree cX6_doLowMinutesAgree 2 (some .boolean) 0 := ⟨tvgc (tvc_7 (List.mem_of_getElem? (i := 53) (by decide +kernel))) rfl, tvgc (tvc_1 (List.mem_of_getElem? (i := 2) (by decide +kernel))) rfl, by decide +kernel, by decide +kernel, plainFor_of_name (by decide +kernel)⟩
theorem yi_X6_doLowMinutesAgree : tvYi yX6_doLowMinutesAgree := ⟨tvgc (tvc_7 (List.mem_of_getElem? (i := 51) (by decide +kernel))) rfl, tvgc (tvc_7 (List.mem_of_getElem? (i := 52) (by decide +kernel))) rfl⟩
theorem yk_X6_hasJustOpened : tvYk yX6_hasJustOpened cX6_hasJustOpened 2 (some .boolean) 1 := ⟨tvgc (tvc_6 (List.mem_of_getElem? (i := 235) (by decide +kernel))) rfl, tvgc (tvc_1 (List.mem_of_getElem? (i := 2) (by decide +kernel))) rfl, by decide +kernel, by decide +kernel, plainFor_of_name (by decide +kernel)⟩
theorem yi_X6_hasJustOpened : tvYi yX6_hasJustOpened := ⟨tvgc (tvc_6 (List.mem_of_getElem? (i := 233) (by decide +kernel))) rfl, tvgc (tvc_6 (List.mem_of_getElem? (i := 234) (by decide +kernel))) rfl⟩
theorem yk_X6_hearRightCode : tvYk yX6_hearRightCode cX6_hearRightCode 2 none 1 := ⟨tvgc (tvc_4 (List.mem_of_getElem? (i := 119) (by decide +kernel))) rfl, tvgc (tvc_1 (List.mem_of_getElem? (i := 2) (by decide +kernel))) rfl, by decide +kernel, by decide +kernel, plainFor_of_name (by decide +kernel)⟩
theorem yi_X6_hearRightCode : tvYi yX6_hearRightCode := ⟨tvgc (tvc_4 (List.mem_of_getElem? (i := 118) (by decide +kernel))) rfl, tvg 12 (by decide +kernel) rfl⟩
theorem yk_X6_hearWrongCode : tvYk yX6_hearWrongCode cX6_hearWrongCode 3 none 1 := ⟨tvgc (tvc_4 (List.mem_of_getElem? (i := 94) (by decide +kernel))) rfl, tvgc (tvc_1 (List.mem_of_getElem? (i := 2) (by decide +kernel))) rfl, by decide +kernel, by decide +kernel, plainFor_of_name (by decide +kernel)⟩
theorem yi_X6_hearWrongCode : tvYi yX6_hearWrongCode := ⟨tvgc (tvc_4 (List.mem_of_getElem? (i := 92) (by decide +kernel))) rfl, tvgc (tvc_4 (List.mem_of_getElem? (i := 93) (by decide +kernel))) rfl⟩
theorem yk_X6_isCode : tvYk yX6_isCode cX6_isCode 2 (some .boolean) 1 := ⟨tvgc (tvc_2 (List.mem_of_getElem? (i := 57) (by decide +kernel))) rfl, tvgc (tvc_1 (List.mem_of_getElem? (i := 2) (by decide +kernel))) rfl, by decide +kernel, by decide +kernel, plainFor_of_name (by decide +kernel)⟩
theorem yi_X6_isCode : tvYi yX6_isCode := ⟨tvgc (tvc_2 (List.mem_of_getElem? (i := 55) (by decide +kernel))) rfl, tvg 5 (by decide +kernel) rfl⟩
theorem yk_X6_isLocked : tvYk yX6_isLocked cX6_isLocked 2 (some .boolean) 1 := ⟨tvgc (tvc_4 (List.mem_of_getElem? (i := 66) (by decide +kernel))) rfl, tvgc (tvc_1 (List.mem_of_getElem? (i := 2) (by decide +kernel))) rfl, by decide +kernel, by decide +kernel, plainFor_of_name (by decide +kernel)⟩
theorem yi_X6_isLocked : tvYi yX6_isLocked := ⟨tvgc (tvc_4 (List.mem_of_getElem? (i := 65) (by decide +kernel))) rfl, tvg 9 (by decide +kernel) rfl⟩
theorem yk_X6_isLow : tvYk yX6_isLow cX6_isLow 1 (some .boolean) 0 := ⟨tvgc (tvc_2 (List.mem_of_getElem? (i := 165) (by decide +kernel))) rfl, tvgc (tvc_1 (List.mem_of_getElem? (i := 2) (by decide +kernel))) rfl, by decide +kernel, by decide +kernel, plainFor_of_name (by decide +kernel)⟩
theorem yi_X6_isLow : tvYi yX6_isLow := ⟨tvgc (tvc_2 (List.mem_of_getElem? (i := 163) (by decide +kernel))) rfl, tvgc (tvc_2 (List.mem_of_getElem? (i := 164) (by decide +kernel))) rfl⟩
theorem yk_X6_letPass : tvYk yX6_letPass cX6_letPass 4 (some .int) 1 := ⟨tvgc (tvc_2 (List.mem_of_getElem? (i := 157) (by decide +kernel))) rfl, tvgc (tvc_1 (List.mem_of_getElem? (i := 2) (by decide +kernel))) rfl, by decide +kernel, by decide +kernel, plainFor_of_name (by decide +kernel)⟩
theorem yi_X6_letPass : tvYi yX6_letPass := ⟨tvgc (tvc_2 (List.mem_of_getElem? (i := 155) (by decide +kernel))) rfl, tvgc (tvc_2 (List.mem_of_getElem? (i := 156) (by decide +kernel))) rfl⟩
theorem yk_X6_minute : tvYk yX6_minute cX6_minute 3 (some .int) 0 := ⟨tvgc (tvc_2 (List.mem_of_getElem? (i := 161) (by decide +kernel))) rfl, tvgc (tvc_1 (List.mem_of_getElem? (i := 2) (by decide +kernel))) rfl, by decide +kernel, by decide +kernel, plainFor_of_name (by decide +kernel)⟩
theorem yi_X6_minute : tvYi yX6_minute := ⟨tvgc (tvc_2 (List.mem_of_getElem? (i := 159) (by decide +kernel))) rfl, tvgc (tvc_2 (List.mem_of_getElem? (i := 160) (by decide +kernel))) rfl⟩
theorem yk_X6_openIfDue : tvYk yX6_openIfDue cX6_openIfDue 2 (some .int) 1 := ⟨tvgc (tvc_2 (List.mem_of_getElem? (i := 177) (by decide +kernel))) rfl, tvgc (tvc_1 (List.mem_of_getElem? (i := 2) (by decide +kernel))) rfl, by decide +kernel, by decide +kernel, plainFor_of_name (by decide +kernel)⟩
theorem yi_X6_openIfDue : tvYi yX6_openIfDue := ⟨tvgc (tvc_2 (List.mem_of_getElem? (i := 176) (by decide +kernel))) rfl, tvg 6 (by decide +kernel) rfl⟩
theorem yk_X6_put : tvYk yX6_put cX6_put 3 (some .int) 2 := ⟨tvgc (tvc_4 (List.mem_of_getElem? (i := 170) (by decide +kernel))) rfl, tvgc (tvc_1 (List.mem_of_getElem? (i := 2) (by decide +kernel))) rfl, by decide +kernel, by decide +kernel, plainFor_of_name (by decide +kernel)⟩
theorem yi_X6_put : tvYi yX6_put := ⟨tvgc (tvc_4 (List.mem_of_getElem? (i := 168) (by decide +kernel))) rfl, tvgc (tvc_4 (List.mem_of_getElem? (i := 169) (by decide +kernel))) rfl⟩
theorem yk_X6_raiseAlarm : tvYk yX6_raiseAlarm cX6_raiseAlarm 2 none 1 := ⟨tvgc (tvc_4 (List.mem_of_getElem? (i := 98) (by decide +kernel))) rfl, tvgc (tvc_1 (List.mem_of_getElem? (i := 2) (by decide +kernel))) rfl, by decide +kernel, by decide +kernel, plainFor_of_name (by decide +kernel)⟩
theorem yi_X6_raiseAlarm : tvYi yX6_raiseAlarm := ⟨tvgc (tvc_4 (List.mem_of_getElem? (i := 97) (by decide +kernel))) rfl, tvg 11 (by decide +kernel) rfl⟩
theorem yk_X6_recode : tvYk yX6_recode cX6_recode 4 (some .int) 2 := ⟨tvgc (tvc_4 (List.mem_of_getElem? (i := 151) (by decide +kernel))) rfl, tvgc (tvc_1 (List.mem_of_getElem? (i := 2) (by decide +kernel))) rfl, by decide +kernel, by decide +kernel, plainFor_of_name (by decide +kernel)⟩
theorem yi_X6_recode : tvYi yX6_recode := ⟨tvgc (tvc_4 (List.mem_of_getElem? (i := 149) (by decide +kernel))) rfl, tvgc (tvc_4 (List.mem_of_getElem? (i := 150) (by decide +kernel))) rfl⟩
theorem yk_X6_refusalOfBox : tvYk yX6_refusalOfBox cX6_refusalOfBox 4 (some .int) 3 := ⟨tvgc (tvc_4 (List.mem_of_getElem? (i := 33) (by decide +kernel))) rfl, tvgc (tvc_1 (List.mem_of_getElem? (i := 2) (by decide +kernel))) rfl, by decide +kernel, by decide +kernel, plainFor_of_name (by decide +kernel)⟩
theorem yi_X6_refusalOfBox : tvYi yX6_refusalOfBox := ⟨tvgc (tvc_4 (List.mem_of_getElem? (i := 31) (by decide +kernel))) rfl, tvgc (tvc_4 (List.mem_of_getElem? (i := 32) (by decide +kernel))) rfl⟩
theorem yk_X6_refusalOfClose : tvYk yX6_refusalOfClose cX6_refusalOfClose 2 (some .int) 1 := ⟨tvgc (tvc_2 (List.mem_of_getElem? (i := 127) (by decide +kernel))) rfl, tvgc (tvc_1 (List.mem_of_getElem? (i := 2) (by decide +kernel))) rfl, by decide +kernel, by decide +kernel, plainFor_of_name (by decide +kernel)⟩
theorem yi_X6_refusalOfClose : tvYi yX6_refusalOfClose := ⟨tvgc (tvc_2 (List.mem_of_getElem? (i := 125) (by decide +kernel))) rfl, tvgc (tvc_2 (List.mem_of_getElem? (i := 126) (by decide +kernel))) rfl⟩
theorem yk_X6_refusalOfCode : tvYk yX6_refusalOfCode cX6_refusalOfCode 4 (some .int) 3 := ⟨tvgc (tvc_4 (List.mem_of_getElem? (i := 147) (by decide +kernel))) rfl, tvgc (tvc_1 (List.mem_of_getElem? (i := 2) (by decide +kernel))) rfl, by decide +kernel, by decide +kernel, plainFor_of_name (by decide +kernel)⟩
theorem yi_X6_refusalOfCode : tvYi yX6_refusalOfCode := ⟨tvgc (tvc_4 (List.mem_of_getElem? (i := 145) (by decide +kernel))) rfl, tvgc (tvc_4 (List.mem_of_getElem? (i := 146) (by decide +kernel))) rfl⟩
theorem yk_X6_refusalOfHolder : tvYk yX6_refusalOfHolder cX6_refusalOfHolder 2 (some .int) 1 := ⟨tvgc (tvc_2 (List.mem_of_getElem? (i := 52) (by decide +kernel))) rfl, tvgc (tvc_1 (List.mem_of_getElem? (i := 2) (by decide +kernel))) rfl, by decide +kernel, by decide +kernel, plainFor_of_name (by decide +kernel)⟩
theorem yi_X6_refusalOfHolder : tvYi yX6_refusalOfHolder := ⟨tvgc (tvc_2 (List.mem_of_getElem? (i := 50) (by decide +kernel))) rfl, tvgc (tvc_2 (List.mem_of_getElem? (i := 51) (by decide +kernel))) rfl⟩
theorem yk_X6_refusalOfPut : tvYk yX6_refusalOfPut cX6_refusalOfPut 4 (some .int) 2 := ⟨tvgc (tvc_4 (List.mem_of_getElem? (i := 166) (by decide +kernel))) rfl, tvgc (tvc_1 (List.mem_of_getElem? (i := 2) (by decide +kernel))) rfl, by decide +kernel, by decide +kernel, plainFor_of_name (by decide +kernel)⟩
theorem yi_X6_refusalOfPut : tvYi yX6_refusalOfPut := ⟨tvgc (tvc_4 (List.mem_of_getElem? (i := 164) (by decide +kernel))) rfl, tvgc (tvc_4 (List.mem_of_getElem? (i := 165) (by decide +kernel))) rfl⟩
theorem yk_X6_refusalOfTake : tvYk yX6_refusalOfTake cX6_refusalOfTake 2 (some .int) 1 := ⟨tvgc (tvc_4 (List.mem_of_getElem? (i := 193) (by decide +kernel))) rfl, tvgc (tvc_1 (List.mem_of_getElem? (i := 2) (by decide +kernel))) rfl, by decide +kernel, by decide +kernel, plainFor_of_name (by decide +kernel)⟩
theorem yi_X6_refusalOfTake : tvYi yX6_refusalOfTake := ⟨tvgc (tvc_4 (List.mem_of_getElem? (i := 191) (by decide +kernel))) rfl, tvgc (tvc_4 (List.mem_of_getElem? (i := 192) (by decide +kernel))) rfl⟩
theorem yk_X6_refusalOfTide : tvYk yX6_refusalOfTide cX6_refusalOfTide 4 (some .int) 2 := ⟨tvgc (tvc_2 (List.mem_of_getElem? (i := 91) (by decide +kernel))) rfl, tvgc (tvc_1 (List.mem_of_getElem? (i := 2) (by decide +kernel))) rfl, by decide +kernel, by decide +kernel, plainFor_of_name (by decide +kernel)⟩
theorem yi_X6_refusalOfTide : tvYi yX6_refusalOfTide := ⟨tvgc (tvc_2 (List.mem_of_getElem? (i := 89) (by decide +kernel))) rfl, tvgc (tvc_2 (List.mem_of_getElem? (i := 90) (by decide +kernel))) rfl⟩
theorem yk_X6_refusalOfTurn : tvYk yX6_refusalOfTurn cX6_refusalOfTurn 4 (some .int) 3 := ⟨tvgc (tvc_4 (List.mem_of_getElem? (i := 58) (by decide +kernel))) rfl, tvgc (tvc_1 (List.mem_of_getElem? (i := 2) (by decide +kernel))) rfl, by decide +kernel, by decide +kernel, plainFor_of_name (by decide +kernel)⟩
theorem yi_X6_refusalOfTurn : tvYi yX6_refusalOfTurn := ⟨tvgc (tvc_4 (List.mem_of_getElem? (i := 56) (by decide +kernel))) rfl, tvgc (tvc_4 (List.mem_of_getElem? (i := 57) (by decide +kernel))) rfl⟩
theorem yk_X6_refusalOfWait : tvYk yX6_refusalOfWait cX6_refusalOfWait 2 (some .int) 1 := ⟨tvgc (tvc_2 (List.mem_of_getElem? (i := 153) (by decide +kernel))) rfl, tvgc (tvc_1 (List.mem_of_getElem? (i := 2) (by decide +kernel))) rfl, by decide +kernel, by decide +kernel, plainFor_of_name (by decide +kernel)⟩
theorem yi_X6_refusalOfWait : tvYi yX6_refusalOfWait := ⟨tvgc (tvc_2 (List.mem_of_getElem? (i := 151) (by decide +kernel))) rfl, tvgc (tvc_2 (List.mem_of_getElem? (i := 152) (by decide +kernel))) rfl⟩
theorem yk_X6_searchOpening : tvYk yX6_searchOpening cX6_searchOpening 6 (some .int) 1 := ⟨tvgc (tvc_2 (List.mem_of_getElem? (i := 207) (by decide +kernel))) rfl, tvgc (tvc_1 (List.mem_of_getElem? (i := 2) (by decide +kernel))) rfl, by decide +kernel, by decide +kernel, plainFor_of_name (by decide +kernel)⟩
theorem yi_X6_searchOpening : tvYi yX6_searchOpening := ⟨tvgc (tvc_2 (List.mem_of_getElem? (i := 205) (by decide +kernel))) rfl, tvgc (tvc_2 (List.mem_of_getElem? (i := 206) (by decide +kernel))) rfl⟩
theorem yk_X6_shut : tvYk yX6_shut cX6_shut 2 (some .int) 1 := ⟨tvgc (tvc_2 (List.mem_of_getElem? (i := 133) (by decide +kernel))) rfl, tvgc (tvc_1 (List.mem_of_getElem? (i := 2) (by decide +kernel))) rfl, by decide +kernel, by decide +kernel, plainFor_of_name (by decide +kernel)⟩
theorem yi_X6_shut : tvYi yX6_shut := ⟨tvgc (tvc_2 (List.mem_of_getElem? (i := 131) (by decide +kernel))) rfl, tvgc (tvc_2 (List.mem_of_getElem? (i := 132) (by decide +kernel))) rfl⟩
theorem yk_X6_take : tvYk yX6_take cX6_take 3 (some .int) 1 := ⟨tvgc (tvc_4 (List.mem_of_getElem? (i := 197) (by decide +kernel))) rfl, tvgc (tvc_1 (List.mem_of_getElem? (i := 2) (by decide +kernel))) rfl, by decide +kernel, by decide +kernel, plainFor_of_name (by decide +kernel)⟩
theorem yi_X6_take : tvYi yX6_take := ⟨tvgc (tvc_4 (List.mem_of_getElem? (i := 195) (by decide +kernel))) rfl, tvgc (tvc_4 (List.mem_of_getElem? (i := 196) (by decide +kernel))) rfl⟩
theorem yk_X6_turn : tvYk yX6_turn cX6_turn 3 (some .char) 2 := ⟨tvgc (tvc_4 (List.mem_of_getElem? (i := 115) (by decide +kernel))) rfl, tvgc (tvc_1 (List.mem_of_getElem? (i := 2) (by decide +kernel))) rfl, by decide +kernel, by decide +kernel, plainFor_of_name (by decide +kernel)⟩
theorem yi_X6_turn : tvYi yX6_turn := ⟨tvgc (tvc_4 (List.mem_of_getElem? (i := 113) (by decide +kernel))) rfl, tvgc (tvc_4 (List.mem_of_getElem? (i := 114) (by decide +kernel))) rfl⟩
theorem yk_X6_waitForOpening : tvYk yX6_waitForOpening cX6_waitForOpening 3 (some .int) 1 := ⟨tvgc (tvc_6 (List.mem_of_getElem? (i := 231) (by decide +kernel))) rfl, tvgc (tvc_1 (List.mem_of_getElem? (i := 2) (by decide +kernel))) rfl, by decide +kernel, by decide +kernel, plainFor_of_name (by decide +kernel)⟩
theorem yi_X6_waitForOpening : tvYi yX6_waitForOpening := ⟨tvgc (tvc_6 (List.mem_of_getElem? (i := 229) (by decide +kernel))) rfl, tvgc (tvc_6 (List.mem_of_getElem? (i := 230) (by decide +kernel))) rfl⟩
def dl_X6_copyFrom : List (Nat × Instr × Nat) := [(0, .aload_n 0, 1), (1, .getfield 12, 3), (4, .aload_n 1, 1), (5, .getfield 12, 3), (8, .invokevirtual 39, 3), (11, .aload_n 0, 1), (12, .getfield 21, 3), (15, .aload_n 1, 1), (16, .getfield 21, 3), (19, .invokevirtual 43, 3), (22, .aload_n 0, 1), (23, .getfield 28, 3), (26, .aload_n 1, 1), (27, .getfield 28, 3), (30, .invokevirtual 46, 3), (33, .aload_n 0, 1), (34, .getfield 35, 3), (37, .aload_n 1, 1), (38, .getfield 35, 3), (41, .invokevirtual 49, 3), (44, .aload_n 0, 1), (45, .aload_n 1, 1), (46, .getfield 52, 3), (49, .putfield 52, 3), (52, .aload_n 0, 1), (53, .aload_n 1, 1), (54, .getfield 56, 3), (57, .putfield 56, 3), (60, .aload_n 0, 1), (61, .aload_n 1, 1), (62, .getfield 59, 3), (65, .putfield 59, 3), (68, .aload_n 0, 1), (69, .aload_n 1, 1), (70, .getfield 62, 3), (73, .putfield 62, 3), (76, .aload_n 0, 1), (77, .aload_n 1, 1), (78, .getfield 65, 3), (81, .putfield 65, 3), (84, .return_, 1)]
theorem dlk_X6_copyFrom : tvDl cX6_copyFrom dl_X6_copyFrom = true := by decide +kernel
theorem dk_X6_copyFrom_0 : tvD cX6_copyFrom 0 (.aload_n 0) 1 1 := tvDl_get dlk_X6_copyFrom 0 rfl rfl
theorem dk_X6_copyFrom_1 : tvD cX6_copyFrom 1 (.getfield 12) 3 4 := tvDl_get dlk_X6_copyFrom 1 rfl rfl
theorem dk_X6_copyFrom_4 : tvD cX6_copyFrom 4 (.aload_n 1) 1 5 := tvDl_get dlk_X6_copyFrom 2 rfl rfl
theorem dk_X6_copyFrom_5 : tvD cX6_copyFrom 5 (.getfield 12) 3 8 := tvDl_get dlk_X6_copyFrom 3 rfl rfl
theorem dk_X6_copyFrom_8 : tvD cX6_copyFrom 8 (.invokevirtual 39) 3 11 := tvDl_get dlk_X6_copyFrom 4 rfl rfl
theorem dk_X6_copyFrom_11 : tvD cX6_copyFrom 11 (.aload_n 0) 1 12 := tvDl_get dlk_X6_copyFrom 5 rfl rfl
theorem dk_X6_copyFrom_12 : tvD cX6_copyFrom 12 (.getfield 21) 3 15 := tvDl_get dlk_X6_copyFrom 6 rfl rfl
theorem dk_X6_copyFrom_15 : tvD cX6_copyFrom 15 (.aload_n 1) 1 16 := tvDl_get dlk_X6_copyFrom 7 rfl rfl
theorem dk_X6_copyFrom_16 : tvD cX6_copyFrom 16 (.getfield 21) 3 19 := tvDl_get dlk_X6_copyFrom 8 rfl rfl
theorem dk_X6_copyFrom_19 : tvD cX6_copyFrom 19 (.invokevirtual 43) 3 22 := tvDl_get dlk_X6_copyFrom 9 rfl rfl
theorem dk_X6_copyFrom_22 : tvD cX6_copyFrom 22 (.aload_n 0) 1 23 := tvDl_get dlk_X6_copyFrom 10 rfl rfl
theorem dk_X6_copyFrom_23 : tvD cX6_copyFrom 23 (.getfield 28) 3 26 := tvDl_get dlk_X6_copyFrom 11 rfl rfl
theorem dk_X6_copyFrom_26 : tvD cX6_copyFrom 26 (.aload_n 1) 1 27 := tvDl_get dlk_X6_copyFrom 12 rfl rfl
theorem dk_X6_copyFrom_27 : tvD cX6_copyFrom 27 (.getfield 28) 3 30 := tvDl_get dlk_X6_copyFrom 13 rfl rfl
theorem dk_X6_copyFrom_30 : tvD cX6_copyFrom 30 (.invokevirtual 46) 3 33 := tvDl_get dlk_X6_copyFrom 14 rfl rfl
theorem dk_X6_copyFrom_33 : tvD cX6_copyFrom 33 (.aload_n 0) 1 34 := tvDl_get dlk_X6_copyFrom 15 rfl rfl
theorem dk_X6_copyFrom_34 : tvD cX6_copyFrom 34 (.getfield 35) 3 37 := tvDl_get dlk_X6_copyFrom 16 rfl rfl
theorem dk_X6_copyFrom_37 : tvD cX6_copyFrom 37 (.aload_n 1) 1 38 := tvDl_get dlk_X6_copyFrom 17 rfl rfl
theorem dk_X6_copyFrom_38 : tvD cX6_copyFrom 38 (.getfield 35) 3 41 := tvDl_get dlk_X6_copyFrom 18 rfl rfl
theorem dk_X6_copyFrom_41 : tvD cX6_copyFrom 41 (.invokevirtual 49) 3 44 := tvDl_get dlk_X6_copyFrom 19 rfl rfl
theorem dk_X6_copyFrom_44 : tvD cX6_copyFrom 44 (.aload_n 0) 1 45 := tvDl_get dlk_X6_copyFrom 20 rfl rfl
theorem dk_X6_copyFrom_45 : tvD cX6_copyFrom 45 (.aload_n 1) 1 46 := tvDl_get dlk_X6_copyFrom 21 rfl rfl
theorem dk_X6_copyFrom_46 : tvD cX6_copyFrom 46 (.getfield 52) 3 49 := tvDl_get dlk_X6_copyFrom 22 rfl rfl
theorem dk_X6_copyFrom_49 : tvD cX6_copyFrom 49 (.putfield 52) 3 52 := tvDl_get dlk_X6_copyFrom 23 rfl rfl
theorem dk_X6_copyFrom_52 : tvD cX6_copyFrom 52 (.aload_n 0) 1 53 := tvDl_get dlk_X6_copyFrom 24 rfl rfl
theorem dk_X6_copyFrom_53 : tvD cX6_copyFrom 53 (.aload_n 1) 1 54 := tvDl_get dlk_X6_copyFrom 25 rfl rfl
theorem dk_X6_copyFrom_54 : tvD cX6_copyFrom 54 (.getfield 56) 3 57 := tvDl_get dlk_X6_copyFrom 26 rfl rfl
theorem dk_X6_copyFrom_57 : tvD cX6_copyFrom 57 (.putfield 56) 3 60 := tvDl_get dlk_X6_copyFrom 27 rfl rfl
theorem dk_X6_copyFrom_60 : tvD cX6_copyFrom 60 (.aload_n 0) 1 61 := tvDl_get dlk_X6_copyFrom 28 rfl rfl
theorem dk_X6_copyFrom_61 : tvD cX6_copyFrom 61 (.aload_n 1) 1 62 := tvDl_get dlk_X6_copyFrom 29 rfl rfl
theorem dk_X6_copyFrom_62 : tvD cX6_copyFrom 62 (.getfield 59) 3 65 := tvDl_get dlk_X6_copyFrom 30 rfl rfl
theorem dk_X6_copyFrom_65 : tvD cX6_copyFrom 65 (.putfield 59) 3 68 := tvDl_get dlk_X6_copyFrom 31 rfl rfl
theorem dk_X6_copyFrom_68 : tvD cX6_copyFrom 68 (.aload_n 0) 1 69 := tvDl_get dlk_X6_copyFrom 32 rfl rfl
theorem dk_X6_copyFrom_69 : tvD cX6_copyFrom 69 (.aload_n 1) 1 70 := tvDl_get dlk_X6_copyFrom 33 rfl rfl
theorem dk_X6_copyFrom_70 : tvD cX6_copyFrom 70 (.getfield 62) 3 73 := tvDl_get dlk_X6_copyFrom 34 rfl rfl
theorem dk_X6_copyFrom_73 : tvD cX6_copyFrom 73 (.putfield 62) 3 76 := tvDl_get dlk_X6_copyFrom 35 rfl rfl
theorem dk_X6_copyFrom_76 : tvD cX6_copyFrom 76 (.aload_n 0) 1 77 := tvDl_get dlk_X6_copyFrom 36 rfl rfl
theorem dk_X6_copyFrom_77 : tvD cX6_copyFrom 77 (.aload_n 1) 1 78 := tvDl_get dlk_X6_copyFrom 37 rfl rfl
theorem dk_X6_copyFrom_78 : tvD cX6_copyFrom 78 (.getfield 65) 3 81 := tvDl_get dlk_X6_copyFrom 38 rfl rfl
theorem dk_X6_copyFrom_81 : tvD cX6_copyFrom 81 (.putfield 65) 3 84 := tvDl_get dlk_X6_copyFrom 39 rfl rfl
theorem dk_X6_copyFrom_84 : tvD cX6_copyFrom 84 (.return_) 1 85 := tvDl_get dlk_X6_copyFrom 40 rfl rfl
def dl_X6_doLowMinutesAgree : List (Nat × Instr × Nat) := [(0, .iconst 0, 1), (1, .istore_n 1, 1), (2, .iload_n 1, 1), (3, .sipush 1000, 3), (6, .if_icmp .gt 38, 3), (9, .aload_n 0, 1), (10, .getfield 12, 3), (13, .aload_n 0, 1), (14, .getfield 52, 3), (17, .iload_n 1, 1), (18, .invokevirtual 216, 3), (21, .aload_n 0, 1), (22, .getfield 12, 3), (25, .aload_n 0, 1), (26, .getfield 52, 3), (29, .iload_n 1, 1), (30, .invokevirtual 225, 3), (33, .if_icmp .eq 5, 3), (36, .iconst 0, 1), (37, .ireturn, 1), (38, .iinc 1 50, 3), (41, .goto (-39), 3), (44, .iconst 1, 1), (45, .ireturn, 1)]
theorem dlk_X6_doLowMinutesAgree : tvDl cX6_doLowMinutesAgree dl_X6_doLowMinutesAgree = true := by decide +kernel
theorem dk_X6_doLowMinutesAgree_0 : tvD cX6_doLowMinutesAgree 0 (.iconst 0) 1 1 := tvDl_get dlk_X6_doLowMinutesAgree 0 rfl rfl
theorem dk_X6_doLowMinutesAgree_1 : tvD cX6_doLowMinutesAgree 1 (.istore_n 1) 1 2 := tvDl_get dlk_X6_doLowMinutesAgree 1 rfl rfl
theorem dk_X6_doLowMinutesAgree_2 : tvD cX6_doLowMinutesAgree 2 (.iload_n 1) 1 3 := tvDl_get dlk_X6_doLowMinutesAgree 2 rfl rfl
theorem dk_X6_doLowMinutesAgree_3 : tvD cX6_doLowMinutesAgree 3 (.sipush 1000) 3 6 := tvDl_get dlk_X6_doLowMinutesAgree 3 rfl rfl
theorem dk_X6_doLowMinutesAgree_6 : tvJ cX6_doLowMinutesAgree 6 (.if_icmp .gt) 44 9 := tvJl_get dlk_X6_doLowMinutesAgree 4 rfl (by decide) rfl
theorem dk_X6_doLowMinutesAgree_9 : tvD cX6_doLowMinutesAgree 9 (.aload_n 0) 1 10 := tvDl_get dlk_X6_doLowMinutesAgree 5 rfl rfl
theorem dk_X6_doLowMinutesAgree_10 : tvD cX6_doLowMinutesAgree 10 (.getfield 12) 3 13 := tvDl_get dlk_X6_doLowMinutesAgree 6 rfl rfl
theorem dk_X6_doLowMinutesAgree_13 : tvD cX6_doLowMinutesAgree 13 (.aload_n 0) 1 14 := tvDl_get dlk_X6_doLowMinutesAgree 7 rfl rfl
theorem dk_X6_doLowMinutesAgree_14 : tvD cX6_doLowMinutesAgree 14 (.getfield 52) 3 17 := tvDl_get dlk_X6_doLowMinutesAgree 8 rfl rfl
theorem dk_X6_doLowMinutesAgree_17 : tvD cX6_doLowMinutesAgree 17 (.iload_n 1) 1 18 := tvDl_get dlk_X6_doLowMinutesAgree 9 rfl rfl
theorem dk_X6_doLowMinutesAgree_18 : tvD cX6_doLowMinutesAgree 18 (.invokevirtual 216) 3 21 := tvDl_get dlk_X6_doLowMinutesAgree 10 rfl rfl
theorem dk_X6_doLowMinutesAgree_21 : tvD cX6_doLowMinutesAgree 21 (.aload_n 0) 1 22 := tvDl_get dlk_X6_doLowMinutesAgree 11 rfl rfl
theorem dk_X6_doLowMinutesAgree_22 : tvD cX6_doLowMinutesAgree 22 (.getfield 12) 3 25 := tvDl_get dlk_X6_doLowMinutesAgree 12 rfl rfl
theorem dk_X6_doLowMinutesAgree_25 : tvD cX6_doLowMinutesAgree 25 (.aload_n 0) 1 26 := tvDl_get dlk_X6_doLowMinutesAgree 13 rfl rfl
theorem dk_X6_doLowMinutesAgree_26 : tvD cX6_doLowMinutesAgree 26 (.getfield 52) 3 29 := tvDl_get dlk_X6_doLowMinutesAgree 14 rfl rfl
theorem dk_X6_doLowMinutesAgree_29 : tvD cX6_doLowMinutesAgree 29 (.iload_n 1) 1 30 := tvDl_get dlk_X6_doLowMinutesAgree 15 rfl rfl
theorem dk_X6_doLowMinutesAgree_30 : tvD cX6_doLowMinutesAgree 30 (.invokevirtual 225) 3 33 := tvDl_get dlk_X6_doLowMinutesAgree 16 rfl rfl
theorem dk_X6_doLowMinutesAgree_33 : tvJ cX6_doLowMinutesAgree 33 (.if_icmp .eq) 38 36 := tvJl_get dlk_X6_doLowMinutesAgree 17 rfl (by decide) rfl
theorem dk_X6_doLowMinutesAgree_36 : tvD cX6_doLowMinutesAgree 36 (.iconst 0) 1 37 := tvDl_get dlk_X6_doLowMinutesAgree 18 rfl rfl
theorem dk_X6_doLowMinutesAgree_37 : tvD cX6_doLowMinutesAgree 37 (.ireturn) 1 38 := tvDl_get dlk_X6_doLowMinutesAgree 19 rfl rfl
theorem dk_X6_doLowMinutesAgree_38 : tvD cX6_doLowMinutesAgree 38 (.iinc 1 50) 3 41 := tvDl_get dlk_X6_doLowMinutesAgree 20 rfl rfl
theorem dk_X6_doLowMinutesAgree_41 : tvJ cX6_doLowMinutesAgree 41 .goto 2 44 := tvJl_get dlk_X6_doLowMinutesAgree 21 rfl (by decide) rfl
theorem dk_X6_doLowMinutesAgree_44 : tvD cX6_doLowMinutesAgree 44 (.iconst 1) 1 45 := tvDl_get dlk_X6_doLowMinutesAgree 22 rfl rfl
theorem dk_X6_doLowMinutesAgree_45 : tvD cX6_doLowMinutesAgree 45 (.ireturn) 1 46 := tvDl_get dlk_X6_doLowMinutesAgree 23 rfl rfl
def dl_X6_hasJustOpened : List (Nat × Instr × Nat) := [(0, .aload_n 0, 1), (1, .getfield 28, 3), (4, .iload_n 1, 1), (5, .invokevirtual 98, 3), (8, .bipush 111, 2), (10, .if_icmp .ne 22, 3), (13, .aload_n 0, 1), (14, .getfield 28, 3), (17, .iload_n 1, 1), (18, .invokevirtual 222, 3), (21, .aload_n 0, 1), (22, .getfield 52, 3), (25, .if_icmp .ne 7, 3), (28, .iconst 1, 1), (29, .goto 4, 3), (32, .iconst 0, 1), (33, .ireturn, 1)]
theorem dlk_X6_hasJustOpened : tvDl cX6_hasJustOpened dl_X6_hasJustOpened = true := by decide +kernel
theorem dk_X6_hasJustOpened_0 : tvD cX6_hasJustOpened 0 (.aload_n 0) 1 1 := tvDl_get dlk_X6_hasJustOpened 0 rfl rfl
theorem dk_X6_hasJustOpened_1 : tvD cX6_hasJustOpened 1 (.getfield 28) 3 4 := tvDl_get dlk_X6_hasJustOpened 1 rfl rfl
theorem dk_X6_hasJustOpened_4 : tvD cX6_hasJustOpened 4 (.iload_n 1) 1 5 := tvDl_get dlk_X6_hasJustOpened 2 rfl rfl
theorem dk_X6_hasJustOpened_5 : tvD cX6_hasJustOpened 5 (.invokevirtual 98) 3 8 := tvDl_get dlk_X6_hasJustOpened 3 rfl rfl
theorem dk_X6_hasJustOpened_8 : tvD cX6_hasJustOpened 8 (.bipush 111) 2 10 := tvDl_get dlk_X6_hasJustOpened 4 rfl rfl
theorem dk_X6_hasJustOpened_10 : tvJ cX6_hasJustOpened 10 (.if_icmp .ne) 32 13 := tvJl_get dlk_X6_hasJustOpened 5 rfl (by decide) rfl
theorem dk_X6_hasJustOpened_13 : tvD cX6_hasJustOpened 13 (.aload_n 0) 1 14 := tvDl_get dlk_X6_hasJustOpened 6 rfl rfl
theorem dk_X6_hasJustOpened_14 : tvD cX6_hasJustOpened 14 (.getfield 28) 3 17 := tvDl_get dlk_X6_hasJustOpened 7 rfl rfl
theorem dk_X6_hasJustOpened_17 : tvD cX6_hasJustOpened 17 (.iload_n 1) 1 18 := tvDl_get dlk_X6_hasJustOpened 8 rfl rfl
theorem dk_X6_hasJustOpened_18 : tvD cX6_hasJustOpened 18 (.invokevirtual 222) 3 21 := tvDl_get dlk_X6_hasJustOpened 9 rfl rfl
theorem dk_X6_hasJustOpened_21 : tvD cX6_hasJustOpened 21 (.aload_n 0) 1 22 := tvDl_get dlk_X6_hasJustOpened 10 rfl rfl
theorem dk_X6_hasJustOpened_22 : tvD cX6_hasJustOpened 22 (.getfield 52) 3 25 := tvDl_get dlk_X6_hasJustOpened 11 rfl rfl
theorem dk_X6_hasJustOpened_25 : tvJ cX6_hasJustOpened 25 (.if_icmp .ne) 32 28 := tvJl_get dlk_X6_hasJustOpened 12 rfl (by decide) rfl
theorem dk_X6_hasJustOpened_28 : tvD cX6_hasJustOpened 28 (.iconst 1) 1 29 := tvDl_get dlk_X6_hasJustOpened 13 rfl rfl
theorem dk_X6_hasJustOpened_29 : tvJ cX6_hasJustOpened 29 .goto 33 32 := tvJl_get dlk_X6_hasJustOpened 14 rfl (by decide) rfl
theorem dk_X6_hasJustOpened_32 : tvD cX6_hasJustOpened 32 (.iconst 0) 1 33 := tvDl_get dlk_X6_hasJustOpened 15 rfl rfl
theorem dk_X6_hasJustOpened_33 : tvD cX6_hasJustOpened 33 (.ireturn) 1 34 := tvDl_get dlk_X6_hasJustOpened 16 rfl rfl
def dl_X6_hearRightCode : List (Nat × Instr × Nat) := [(0, .aload_n 0, 1), (1, .dup, 1), (2, .getfield 59, 3), (5, .iconst 1, 1), (6, .iadd, 1), (7, .putfield 59, 3), (10, .aload_n 0, 1), (11, .getfield 21, 3), (14, .iload_n 1, 1), (15, .iconst 0, 1), (16, .invokevirtual 189, 3), (19, .return_, 1)]
theorem dlk_X6_hearRightCode : tvDl cX6_hearRightCode dl_X6_hearRightCode = true := by decide +kernel
theorem dk_X6_hearRightCode_0 : tvD cX6_hearRightCode 0 (.aload_n 0) 1 1 := tvDl_get dlk_X6_hearRightCode 0 rfl rfl
theorem dk_X6_hearRightCode_1 : tvD cX6_hearRightCode 1 (.dup) 1 2 := tvDl_get dlk_X6_hearRightCode 1 rfl rfl
theorem dk_X6_hearRightCode_2 : tvD cX6_hearRightCode 2 (.getfield 59) 3 5 := tvDl_get dlk_X6_hearRightCode 2 rfl rfl
theorem dk_X6_hearRightCode_5 : tvD cX6_hearRightCode 5 (.iconst 1) 1 6 := tvDl_get dlk_X6_hearRightCode 3 rfl rfl
theorem dk_X6_hearRightCode_6 : tvD cX6_hearRightCode 6 (.iadd) 1 7 := tvDl_get dlk_X6_hearRightCode 4 rfl rfl
theorem dk_X6_hearRightCode_7 : tvD cX6_hearRightCode 7 (.putfield 59) 3 10 := tvDl_get dlk_X6_hearRightCode 5 rfl rfl
theorem dk_X6_hearRightCode_10 : tvD cX6_hearRightCode 10 (.aload_n 0) 1 11 := tvDl_get dlk_X6_hearRightCode 6 rfl rfl
theorem dk_X6_hearRightCode_11 : tvD cX6_hearRightCode 11 (.getfield 21) 3 14 := tvDl_get dlk_X6_hearRightCode 7 rfl rfl
theorem dk_X6_hearRightCode_14 : tvD cX6_hearRightCode 14 (.iload_n 1) 1 15 := tvDl_get dlk_X6_hearRightCode 8 rfl rfl
theorem dk_X6_hearRightCode_15 : tvD cX6_hearRightCode 15 (.iconst 0) 1 16 := tvDl_get dlk_X6_hearRightCode 9 rfl rfl
theorem dk_X6_hearRightCode_16 : tvD cX6_hearRightCode 16 (.invokevirtual 189) 3 19 := tvDl_get dlk_X6_hearRightCode 10 rfl rfl
theorem dk_X6_hearRightCode_19 : tvD cX6_hearRightCode 19 (.return_) 1 20 := tvDl_get dlk_X6_hearRightCode 11 rfl rfl
def dl_X6_hearWrongCode : List (Nat × Instr × Nat) := [(0, .aload_n 0, 1), (1, .dup, 1), (2, .getfield 59, 3), (5, .iconst 1, 1), (6, .iadd, 1), (7, .putfield 59, 3), (10, .aload_n 0, 1), (11, .dup, 1), (12, .getfield 62, 3), (15, .iconst 1, 1), (16, .iadd, 1), (17, .putfield 62, 3), (20, .aload_n 0, 1), (21, .bipush 10, 2), (23, .invokevirtual 183, 3), (26, .aload_n 0, 1), (27, .getfield 35, 3), (30, .bipush 102, 2), (32, .aload_n 0, 1), (33, .getfield 52, 3), (36, .iload_n 1, 1), (37, .invokevirtual 186, 3), (40, .aload_n 0, 1), (41, .getfield 21, 3), (44, .iload_n 1, 1), (45, .invokevirtual 176, 3), (48, .iconst 1, 1), (49, .iadd, 1), (50, .istore_n 2, 1), (51, .iload_n 2, 1), (52, .iconst 3, 1), (53, .if_icmp .ge 15, 3), (56, .aload_n 0, 1), (57, .getfield 21, 3), (60, .iload_n 1, 1), (61, .iload_n 2, 1), (62, .invokevirtual 189, 3), (65, .goto 47, 3), (68, .aload_n 0, 1), (69, .getfield 21, 3), (72, .iload_n 1, 1), (73, .iconst 0, 1), (74, .invokevirtual 189, 3), (77, .aload_n 0, 1), (78, .getfield 21, 3), (81, .iload_n 1, 1), (82, .aload_n 0, 1), (83, .getfield 52, 3), (86, .bipush 30, 2), (88, .iadd, 1), (89, .invokevirtual 192, 3), (92, .aload_n 0, 1), (93, .bipush 25, 2), (95, .invokevirtual 183, 3), (98, .aload_n 0, 1), (99, .getfield 35, 3), (102, .bipush 108, 2), (104, .aload_n 0, 1), (105, .getfield 52, 3), (108, .iload_n 1, 1)]
theorem dlk_X6_hearWrongCode : tvDl cX6_hearWrongCode dl_X6_hearWrongCode = true := by decide +kernel
theorem dk_X6_hearWrongCode_0 : tvD cX6_hearWrongCode 0 (.aload_n 0) 1 1 := tvDl_get dlk_X6_hearWrongCode 0 rfl rfl
theorem dk_X6_hearWrongCode_1 : tvD cX6_hearWrongCode 1 (.dup) 1 2 := tvDl_get dlk_X6_hearWrongCode 1 rfl rfl
theorem dk_X6_hearWrongCode_2 : tvD cX6_hearWrongCode 2 (.getfield 59) 3 5 := tvDl_get dlk_X6_hearWrongCode 2 rfl rfl
theorem dk_X6_hearWrongCode_5 : tvD cX6_hearWrongCode 5 (.iconst 1) 1 6 := tvDl_get dlk_X6_hearWrongCode 3 rfl rfl
theorem dk_X6_hearWrongCode_6 : tvD cX6_hearWrongCode 6 (.iadd) 1 7 := tvDl_get dlk_X6_hearWrongCode 4 rfl rfl
theorem dk_X6_hearWrongCode_7 : tvD cX6_hearWrongCode 7 (.putfield 59) 3 10 := tvDl_get dlk_X6_hearWrongCode 5 rfl rfl
theorem dk_X6_hearWrongCode_10 : tvD cX6_hearWrongCode 10 (.aload_n 0) 1 11 := tvDl_get dlk_X6_hearWrongCode 6 rfl rfl
theorem dk_X6_hearWrongCode_11 : tvD cX6_hearWrongCode 11 (.dup) 1 12 := tvDl_get dlk_X6_hearWrongCode 7 rfl rfl
theorem dk_X6_hearWrongCode_12 : tvD cX6_hearWrongCode 12 (.getfield 62) 3 15 := tvDl_get dlk_X6_hearWrongCode 8 rfl rfl
theorem dk_X6_hearWrongCode_15 : tvD cX6_hearWrongCode 15 (.iconst 1) 1 16 := tvDl_get dlk_X6_hearWrongCode 9 rfl rfl
theorem dk_X6_hearWrongCode_16 : tvD cX6_hearWrongCode 16 (.iadd) 1 17 := tvDl_get dlk_X6_hearWrongCode 10 rfl rfl
theorem dk_X6_hearWrongCode_17 : tvD cX6_hearWrongCode 17 (.putfield 62) 3 20 := tvDl_get dlk_X6_hearWrongCode 11 rfl rfl
theorem dk_X6_hearWrongCode_20 : tvD cX6_hearWrongCode 20 (.aload_n 0) 1 21 := tvDl_get dlk_X6_hearWrongCode 12 rfl rfl
theorem dk_X6_hearWrongCode_21 : tvD cX6_hearWrongCode 21 (.bipush 10) 2 23 := tvDl_get dlk_X6_hearWrongCode 13 rfl rfl
theorem dk_X6_hearWrongCode_23 : tvD cX6_hearWrongCode 23 (.invokevirtual 183) 3 26 := tvDl_get dlk_X6_hearWrongCode 14 rfl rfl
theorem dk_X6_hearWrongCode_26 : tvD cX6_hearWrongCode 26 (.aload_n 0) 1 27 := tvDl_get dlk_X6_hearWrongCode 15 rfl rfl
theorem dk_X6_hearWrongCode_27 : tvD cX6_hearWrongCode 27 (.getfield 35) 3 30 := tvDl_get dlk_X6_hearWrongCode 16 rfl rfl
theorem dk_X6_hearWrongCode_30 : tvD cX6_hearWrongCode 30 (.bipush 102) 2 32 := tvDl_get dlk_X6_hearWrongCode 17 rfl rfl
theorem dk_X6_hearWrongCode_32 : tvD cX6_hearWrongCode 32 (.aload_n 0) 1 33 := tvDl_get dlk_X6_hearWrongCode 18 rfl rfl
theorem dk_X6_hearWrongCode_33 : tvD cX6_hearWrongCode 33 (.getfield 52) 3 36 := tvDl_get dlk_X6_hearWrongCode 19 rfl rfl
theorem dk_X6_hearWrongCode_36 : tvD cX6_hearWrongCode 36 (.iload_n 1) 1 37 := tvDl_get dlk_X6_hearWrongCode 20 rfl rfl
theorem dk_X6_hearWrongCode_37 : tvD cX6_hearWrongCode 37 (.invokevirtual 186) 3 40 := tvDl_get dlk_X6_hearWrongCode 21 rfl rfl
theorem dk_X6_hearWrongCode_40 : tvD cX6_hearWrongCode 40 (.aload_n 0) 1 41 := tvDl_get dlk_X6_hearWrongCode 22 rfl rfl
theorem dk_X6_hearWrongCode_41 : tvD cX6_hearWrongCode 41 (.getfield 21) 3 44 := tvDl_get dlk_X6_hearWrongCode 23 rfl rfl
theorem dk_X6_hearWrongCode_44 : tvD cX6_hearWrongCode 44 (.iload_n 1) 1 45 := tvDl_get dlk_X6_hearWrongCode 24 rfl rfl
theorem dk_X6_hearWrongCode_45 : tvD cX6_hearWrongCode 45 (.invokevirtual 176) 3 48 := tvDl_get dlk_X6_hearWrongCode 25 rfl rfl
theorem dk_X6_hearWrongCode_48 : tvD cX6_hearWrongCode 48 (.iconst 1) 1 49 := tvDl_get dlk_X6_hearWrongCode 26 rfl rfl
theorem dk_X6_hearWrongCode_49 : tvD cX6_hearWrongCode 49 (.iadd) 1 50 := tvDl_get dlk_X6_hearWrongCode 27 rfl rfl
theorem dk_X6_hearWrongCode_50 : tvD cX6_hearWrongCode 50 (.istore_n 2) 1 51 := tvDl_get dlk_X6_hearWrongCode 28 rfl rfl
theorem dk_X6_hearWrongCode_51 : tvD cX6_hearWrongCode 51 (.iload_n 2) 1 52 := tvDl_get dlk_X6_hearWrongCode 29 rfl rfl
theorem dk_X6_hearWrongCode_52 : tvD cX6_hearWrongCode 52 (.iconst 3) 1 53 := tvDl_get dlk_X6_hearWrongCode 30 rfl rfl
theorem dk_X6_hearWrongCode_53 : tvJ cX6_hearWrongCode 53 (.if_icmp .ge) 68 56 := tvJl_get dlk_X6_hearWrongCode 31 rfl (by decide) rfl
theorem dk_X6_hearWrongCode_56 : tvD cX6_hearWrongCode 56 (.aload_n 0) 1 57 := tvDl_get dlk_X6_hearWrongCode 32 rfl rfl
theorem dk_X6_hearWrongCode_57 : tvD cX6_hearWrongCode 57 (.getfield 21) 3 60 := tvDl_get dlk_X6_hearWrongCode 33 rfl rfl
theorem dk_X6_hearWrongCode_60 : tvD cX6_hearWrongCode 60 (.iload_n 1) 1 61 := tvDl_get dlk_X6_hearWrongCode 34 rfl rfl
theorem dk_X6_hearWrongCode_61 : tvD cX6_hearWrongCode 61 (.iload_n 2) 1 62 := tvDl_get dlk_X6_hearWrongCode 35 rfl rfl
theorem dk_X6_hearWrongCode_62 : tvD cX6_hearWrongCode 62 (.invokevirtual 189) 3 65 := tvDl_get dlk_X6_hearWrongCode 36 rfl rfl
theorem dk_X6_hearWrongCode_65 : tvJ cX6_hearWrongCode 65 .goto 112 68 := tvJl_get dlk_X6_hearWrongCode 37 rfl (by decide) rfl
theorem dk_X6_hearWrongCode_68 : tvD cX6_hearWrongCode 68 (.aload_n 0) 1 69 := tvDl_get dlk_X6_hearWrongCode 38 rfl rfl
theorem dk_X6_hearWrongCode_69 : tvD cX6_hearWrongCode 69 (.getfield 21) 3 72 := tvDl_get dlk_X6_hearWrongCode 39 rfl rfl
theorem dk_X6_hearWrongCode_72 : tvD cX6_hearWrongCode 72 (.iload_n 1) 1 73 := tvDl_get dlk_X6_hearWrongCode 40 rfl rfl
theorem dk_X6_hearWrongCode_73 : tvD cX6_hearWrongCode 73 (.iconst 0) 1 74 := tvDl_get dlk_X6_hearWrongCode 41 rfl rfl
theorem dk_X6_hearWrongCode_74 : tvD cX6_hearWrongCode 74 (.invokevirtual 189) 3 77 := tvDl_get dlk_X6_hearWrongCode 42 rfl rfl
theorem dk_X6_hearWrongCode_77 : tvD cX6_hearWrongCode 77 (.aload_n 0) 1 78 := tvDl_get dlk_X6_hearWrongCode 43 rfl rfl
theorem dk_X6_hearWrongCode_78 : tvD cX6_hearWrongCode 78 (.getfield 21) 3 81 := tvDl_get dlk_X6_hearWrongCode 44 rfl rfl
theorem dk_X6_hearWrongCode_81 : tvD cX6_hearWrongCode 81 (.iload_n 1) 1 82 := tvDl_get dlk_X6_hearWrongCode 45 rfl rfl
theorem dk_X6_hearWrongCode_82 : tvD cX6_hearWrongCode 82 (.aload_n 0) 1 83 := tvDl_get dlk_X6_hearWrongCode 46 rfl rfl
theorem dk_X6_hearWrongCode_83 : tvD cX6_hearWrongCode 83 (.getfield 52) 3 86 := tvDl_get dlk_X6_hearWrongCode 47 rfl rfl
theorem dk_X6_hearWrongCode_86 : tvD cX6_hearWrongCode 86 (.bipush 30) 2 88 := tvDl_get dlk_X6_hearWrongCode 48 rfl rfl
theorem dk_X6_hearWrongCode_88 : tvD cX6_hearWrongCode 88 (.iadd) 1 89 := tvDl_get dlk_X6_hearWrongCode 49 rfl rfl
theorem dk_X6_hearWrongCode_89 : tvD cX6_hearWrongCode 89 (.invokevirtual 192) 3 92 := tvDl_get dlk_X6_hearWrongCode 50 rfl rfl
theorem dk_X6_hearWrongCode_92 : tvD cX6_hearWrongCode 92 (.aload_n 0) 1 93 := tvDl_get dlk_X6_hearWrongCode 51 rfl rfl
theorem dk_X6_hearWrongCode_93 : tvD cX6_hearWrongCode 93 (.bipush 25) 2 95 := tvDl_get dlk_X6_hearWrongCode 52 rfl rfl
theorem dk_X6_hearWrongCode_95 : tvD cX6_hearWrongCode 95 (.invokevirtual 183) 3 98 := tvDl_get dlk_X6_hearWrongCode 53 rfl rfl
theorem dk_X6_hearWrongCode_98 : tvD cX6_hearWrongCode 98 (.aload_n 0) 1 99 := tvDl_get dlk_X6_hearWrongCode 54 rfl rfl
theorem dk_X6_hearWrongCode_99 : tvD cX6_hearWrongCode 99 (.getfield 35) 3 102 := tvDl_get dlk_X6_hearWrongCode 55 rfl rfl
theorem dk_X6_hearWrongCode_102 : tvD cX6_hearWrongCode 102 (.bipush 108) 2 104 := tvDl_get dlk_X6_hearWrongCode 56 rfl rfl
theorem dk_X6_hearWrongCode_104 : tvD cX6_hearWrongCode 104 (.aload_n 0) 1 105 := tvDl_get dlk_X6_hearWrongCode 57 rfl rfl
theorem dk_X6_hearWrongCode_105 : tvD cX6_hearWrongCode 105 (.getfield 52) 3 108 := tvDl_get dlk_X6_hearWrongCode 58 rfl rfl
theorem dk_X6_hearWrongCode_108 : tvD cX6_hearWrongCode 108 (.iload_n 1) 1 109 := tvDl_get dlk_X6_hearWrongCode 59 rfl rfl
def dl_X6_hearWrongCode_1 : List (Nat × Instr × Nat) := [(109, .invokevirtual 186, 3), (112, .return_, 1)]
theorem dlk_X6_hearWrongCode_1 : tvDl cX6_hearWrongCode dl_X6_hearWrongCode_1 = true := by decide +kernel
theorem dk_X6_hearWrongCode_109 : tvD cX6_hearWrongCode 109 (.invokevirtual 186) 3 112 := tvDl_get dlk_X6_hearWrongCode_1 0 rfl rfl
theorem dk_X6_hearWrongCode_112 : tvD cX6_hearWrongCode 112 (.return_) 1 113 := tvDl_get dlk_X6_hearWrongCode_1 1 rfl rfl
def dl_X6_isCode : List (Nat × Instr × Nat) := [(0, .iload_n 1, 1), (1, .ifCond .lt 14, 3), (4, .iload_n 1, 1), (5, .sipush 999, 3), (8, .if_icmp .gt 7, 3), (11, .iconst 1, 1), (12, .goto 4, 3), (15, .iconst 0, 1), (16, .ireturn, 1)]
theorem dlk_X6_isCode : tvDl cX6_isCode dl_X6_isCode = true := by decide +kernel
theorem dk_X6_isCode_0 : tvD cX6_isCode 0 (.iload_n 1) 1 1 := tvDl_get dlk_X6_isCode 0 rfl rfl
theorem dk_X6_isCode_1 : tvJ cX6_isCode 1 (.ifCond .lt) 15 4 := tvJl_get dlk_X6_isCode 1 rfl (by decide) rfl
theorem dk_X6_isCode_4 : tvD cX6_isCode 4 (.iload_n 1) 1 5 := tvDl_get dlk_X6_isCode 2 rfl rfl
theorem dk_X6_isCode_5 : tvD cX6_isCode 5 (.sipush 999) 3 8 := tvDl_get dlk_X6_isCode 3 rfl rfl
theorem dk_X6_isCode_8 : tvJ cX6_isCode 8 (.if_icmp .gt) 15 11 := tvJl_get dlk_X6_isCode 4 rfl (by decide) rfl
theorem dk_X6_isCode_11 : tvD cX6_isCode 11 (.iconst 1) 1 12 := tvDl_get dlk_X6_isCode 5 rfl rfl
theorem dk_X6_isCode_12 : tvJ cX6_isCode 12 .goto 16 15 := tvJl_get dlk_X6_isCode 6 rfl (by decide) rfl
theorem dk_X6_isCode_15 : tvD cX6_isCode 15 (.iconst 0) 1 16 := tvDl_get dlk_X6_isCode 7 rfl rfl
theorem dk_X6_isCode_16 : tvD cX6_isCode 16 (.ireturn) 1 17 := tvDl_get dlk_X6_isCode 8 rfl rfl
def dl_X6_isLocked : List (Nat × Instr × Nat) := [(0, .aload_n 0, 1), (1, .getfield 21, 3), (4, .iload_n 1, 1), (5, .aload_n 0, 1), (6, .getfield 52, 3), (9, .invokevirtual 231, 3), (12, .ifCond .le 7, 3), (15, .iconst 1, 1), (16, .goto 4, 3), (19, .iconst 0, 1), (20, .ireturn, 1)]
theorem dlk_X6_isLocked : tvDl cX6_isLocked dl_X6_isLocked = true := by decide +kernel
theorem dk_X6_isLocked_0 : tvD cX6_isLocked 0 (.aload_n 0) 1 1 := tvDl_get dlk_X6_isLocked 0 rfl rfl
theorem dk_X6_isLocked_1 : tvD cX6_isLocked 1 (.getfield 21) 3 4 := tvDl_get dlk_X6_isLocked 1 rfl rfl
theorem dk_X6_isLocked_4 : tvD cX6_isLocked 4 (.iload_n 1) 1 5 := tvDl_get dlk_X6_isLocked 2 rfl rfl
theorem dk_X6_isLocked_5 : tvD cX6_isLocked 5 (.aload_n 0) 1 6 := tvDl_get dlk_X6_isLocked 3 rfl rfl
theorem dk_X6_isLocked_6 : tvD cX6_isLocked 6 (.getfield 52) 3 9 := tvDl_get dlk_X6_isLocked 4 rfl rfl
theorem dk_X6_isLocked_9 : tvD cX6_isLocked 9 (.invokevirtual 231) 3 12 := tvDl_get dlk_X6_isLocked 5 rfl rfl
theorem dk_X6_isLocked_12 : tvJ cX6_isLocked 12 (.ifCond .le) 19 15 := tvJl_get dlk_X6_isLocked 6 rfl (by decide) rfl
theorem dk_X6_isLocked_15 : tvD cX6_isLocked 15 (.iconst 1) 1 16 := tvDl_get dlk_X6_isLocked 7 rfl rfl
theorem dk_X6_isLocked_16 : tvJ cX6_isLocked 16 .goto 20 19 := tvJl_get dlk_X6_isLocked 8 rfl (by decide) rfl
theorem dk_X6_isLocked_19 : tvD cX6_isLocked 19 (.iconst 0) 1 20 := tvDl_get dlk_X6_isLocked 9 rfl rfl
theorem dk_X6_isLocked_20 : tvD cX6_isLocked 20 (.ireturn) 1 21 := tvDl_get dlk_X6_isLocked 10 rfl rfl
def dl_X6_isLow : List (Nat × Instr × Nat) := [(0, .aload_n 0, 1), (1, .getfield 12, 3), (4, .aload_n 0, 1), (5, .getfield 52, 3), (8, .invokevirtual 228, 3), (11, .ireturn, 1)]
theorem dlk_X6_isLow : tvDl cX6_isLow dl_X6_isLow = true := by decide +kernel
theorem dk_X6_isLow_0 : tvD cX6_isLow 0 (.aload_n 0) 1 1 := tvDl_get dlk_X6_isLow 0 rfl rfl
theorem dk_X6_isLow_1 : tvD cX6_isLow 1 (.getfield 12) 3 4 := tvDl_get dlk_X6_isLow 1 rfl rfl
theorem dk_X6_isLow_4 : tvD cX6_isLow 4 (.aload_n 0) 1 5 := tvDl_get dlk_X6_isLow 2 rfl rfl
theorem dk_X6_isLow_5 : tvD cX6_isLow 5 (.getfield 52) 3 8 := tvDl_get dlk_X6_isLow 3 rfl rfl
theorem dk_X6_isLow_8 : tvD cX6_isLow 8 (.invokevirtual 228) 3 11 := tvDl_get dlk_X6_isLow 4 rfl rfl
theorem dk_X6_isLow_11 : tvD cX6_isLow 11 (.ireturn) 1 12 := tvDl_get dlk_X6_isLow 5 rfl rfl
def dl_X6_letPass : List (Nat × Instr × Nat) := [(0, .iconst 0, 1), (1, .istore_n 2, 1), (2, .iconst 0, 1), (3, .istore_n 3, 1), (4, .iload_n 3, 1), (5, .iload_n 1, 1), (6, .if_icmp .ge 16, 3), (9, .iload_n 2, 1), (10, .aload_n 0, 1), (11, .invokevirtual 203, 3), (14, .iadd, 1), (15, .istore_n 2, 1), (16, .iinc 3 1, 3), (19, .goto (-15), 3), (22, .iload_n 2, 1), (23, .ireturn, 1)]
theorem dlk_X6_letPass : tvDl cX6_letPass dl_X6_letPass = true := by decide +kernel
theorem dk_X6_letPass_0 : tvD cX6_letPass 0 (.iconst 0) 1 1 := tvDl_get dlk_X6_letPass 0 rfl rfl
theorem dk_X6_letPass_1 : tvD cX6_letPass 1 (.istore_n 2) 1 2 := tvDl_get dlk_X6_letPass 1 rfl rfl
theorem dk_X6_letPass_2 : tvD cX6_letPass 2 (.iconst 0) 1 3 := tvDl_get dlk_X6_letPass 2 rfl rfl
theorem dk_X6_letPass_3 : tvD cX6_letPass 3 (.istore_n 3) 1 4 := tvDl_get dlk_X6_letPass 3 rfl rfl
theorem dk_X6_letPass_4 : tvD cX6_letPass 4 (.iload_n 3) 1 5 := tvDl_get dlk_X6_letPass 4 rfl rfl
theorem dk_X6_letPass_5 : tvD cX6_letPass 5 (.iload_n 1) 1 6 := tvDl_get dlk_X6_letPass 5 rfl rfl
theorem dk_X6_letPass_6 : tvJ cX6_letPass 6 (.if_icmp .ge) 22 9 := tvJl_get dlk_X6_letPass 6 rfl (by decide) rfl
theorem dk_X6_letPass_9 : tvD cX6_letPass 9 (.iload_n 2) 1 10 := tvDl_get dlk_X6_letPass 7 rfl rfl
theorem dk_X6_letPass_10 : tvD cX6_letPass 10 (.aload_n 0) 1 11 := tvDl_get dlk_X6_letPass 8 rfl rfl
theorem dk_X6_letPass_11 : tvD cX6_letPass 11 (.invokevirtual 203) 3 14 := tvDl_get dlk_X6_letPass 9 rfl rfl
theorem dk_X6_letPass_14 : tvD cX6_letPass 14 (.iadd) 1 15 := tvDl_get dlk_X6_letPass 10 rfl rfl
theorem dk_X6_letPass_15 : tvD cX6_letPass 15 (.istore_n 2) 1 16 := tvDl_get dlk_X6_letPass 11 rfl rfl
theorem dk_X6_letPass_16 : tvD cX6_letPass 16 (.iinc 3 1) 3 19 := tvDl_get dlk_X6_letPass 12 rfl rfl
theorem dk_X6_letPass_19 : tvJ cX6_letPass 19 .goto 4 22 := tvJl_get dlk_X6_letPass 13 rfl (by decide) rfl
theorem dk_X6_letPass_22 : tvD cX6_letPass 22 (.iload_n 2) 1 23 := tvDl_get dlk_X6_letPass 14 rfl rfl
theorem dk_X6_letPass_23 : tvD cX6_letPass 23 (.ireturn) 1 24 := tvDl_get dlk_X6_letPass 15 rfl rfl
def dl_X6_minute : List (Nat × Instr × Nat) := [(0, .aload_n 0, 1), (1, .invokevirtual 169, 3), (4, .ifCond .eq 10, 3), (7, .aload_n 0, 1), (8, .getfield 28, 3), (11, .invokevirtual 207, 3), (14, .aload_n 0, 1), (15, .dup, 1), (16, .getfield 52, 3), (19, .iconst 1, 1), (20, .iadd, 1), (21, .putfield 52, 3), (24, .aload_n 0, 1), (25, .getfield 52, 3), (28, .iconst 5, 1), (29, .irem, 1), (30, .ifCond .ne 20, 3), (33, .aload_n 0, 1), (34, .getfield 56, 3), (37, .ifCond .le 13, 3), (40, .aload_n 0, 1), (41, .dup, 1), (42, .getfield 56, 3), (45, .iconst 1, 1), (46, .isub, 1), (47, .putfield 56, 3), (50, .iconst 0, 1), (51, .istore_n 1, 1), (52, .aload_n 0, 1), (53, .invokevirtual 169, 3), (56, .ifCond .eq 30, 3), (59, .iconst 0, 1), (60, .istore_n 2, 1), (61, .iload_n 2, 1), (62, .aload_n 0, 1), (63, .getfield 28, 3), (66, .getfield 79, 3), (69, .if_icmp .ge 17, 3), (72, .iload_n 1, 1), (73, .aload_n 0, 1), (74, .iload_n 2, 1), (75, .invokevirtual 173, 3), (78, .iadd, 1), (79, .istore_n 1, 1), (80, .iinc 2 1, 3), (83, .goto (-22), 3), (86, .iconst 0, 1), (87, .istore_n 2, 1), (88, .iload_n 2, 1), (89, .aload_n 0, 1), (90, .getfield 28, 3), (93, .getfield 79, 3), (96, .if_icmp .ge 30, 3), (99, .aload_n 0, 1), (100, .getfield 28, 3), (103, .iload_n 2, 1), (104, .aload_n 0, 1), (105, .getfield 52, 3), (108, .invokevirtual 210, 3), (111, .ifCond .eq 9, 3)]
theorem dlk_X6_minute : tvDl cX6_minute dl_X6_minute = true := by decide +kernel
theorem dk_X6_minute_0 : tvD cX6_minute 0 (.aload_n 0) 1 1 := tvDl_get dlk_X6_minute 0 rfl rfl
theorem dk_X6_minute_1 : tvD cX6_minute 1 (.invokevirtual 169) 3 4 := tvDl_get dlk_X6_minute 1 rfl rfl
theorem dk_X6_minute_4 : tvJ cX6_minute 4 (.ifCond .eq) 14 7 := tvJl_get dlk_X6_minute 2 rfl (by decide) rfl
theorem dk_X6_minute_7 : tvD cX6_minute 7 (.aload_n 0) 1 8 := tvDl_get dlk_X6_minute 3 rfl rfl
theorem dk_X6_minute_8 : tvD cX6_minute 8 (.getfield 28) 3 11 := tvDl_get dlk_X6_minute 4 rfl rfl
theorem dk_X6_minute_11 : tvD cX6_minute 11 (.invokevirtual 207) 3 14 := tvDl_get dlk_X6_minute 5 rfl rfl
theorem dk_X6_minute_14 : tvD cX6_minute 14 (.aload_n 0) 1 15 := tvDl_get dlk_X6_minute 6 rfl rfl
theorem dk_X6_minute_15 : tvD cX6_minute 15 (.dup) 1 16 := tvDl_get dlk_X6_minute 7 rfl rfl
theorem dk_X6_minute_16 : tvD cX6_minute 16 (.getfield 52) 3 19 := tvDl_get dlk_X6_minute 8 rfl rfl
theorem dk_X6_minute_19 : tvD cX6_minute 19 (.iconst 1) 1 20 := tvDl_get dlk_X6_minute 9 rfl rfl
theorem dk_X6_minute_20 : tvD cX6_minute 20 (.iadd) 1 21 := tvDl_get dlk_X6_minute 10 rfl rfl
theorem dk_X6_minute_21 : tvD cX6_minute 21 (.putfield 52) 3 24 := tvDl_get dlk_X6_minute 11 rfl rfl
theorem dk_X6_minute_24 : tvD cX6_minute 24 (.aload_n 0) 1 25 := tvDl_get dlk_X6_minute 12 rfl rfl
theorem dk_X6_minute_25 : tvD cX6_minute 25 (.getfield 52) 3 28 := tvDl_get dlk_X6_minute 13 rfl rfl
theorem dk_X6_minute_28 : tvD cX6_minute 28 (.iconst 5) 1 29 := tvDl_get dlk_X6_minute 14 rfl rfl
theorem dk_X6_minute_29 : tvD cX6_minute 29 (.irem) 1 30 := tvDl_get dlk_X6_minute 15 rfl rfl
theorem dk_X6_minute_30 : tvJ cX6_minute 30 (.ifCond .ne) 50 33 := tvJl_get dlk_X6_minute 16 rfl (by decide) rfl
theorem dk_X6_minute_33 : tvD cX6_minute 33 (.aload_n 0) 1 34 := tvDl_get dlk_X6_minute 17 rfl rfl
theorem dk_X6_minute_34 : tvD cX6_minute 34 (.getfield 56) 3 37 := tvDl_get dlk_X6_minute 18 rfl rfl
theorem dk_X6_minute_37 : tvJ cX6_minute 37 (.ifCond .le) 50 40 := tvJl_get dlk_X6_minute 19 rfl (by decide) rfl
theorem dk_X6_minute_40 : tvD cX6_minute 40 (.aload_n 0) 1 41 := tvDl_get dlk_X6_minute 20 rfl rfl
theorem dk_X6_minute_41 : tvD cX6_minute 41 (.dup) 1 42 := tvDl_get dlk_X6_minute 21 rfl rfl
theorem dk_X6_minute_42 : tvD cX6_minute 42 (.getfield 56) 3 45 := tvDl_get dlk_X6_minute 22 rfl rfl
theorem dk_X6_minute_45 : tvD cX6_minute 45 (.iconst 1) 1 46 := tvDl_get dlk_X6_minute 23 rfl rfl
theorem dk_X6_minute_46 : tvD cX6_minute 46 (.isub) 1 47 := tvDl_get dlk_X6_minute 24 rfl rfl
theorem dk_X6_minute_47 : tvD cX6_minute 47 (.putfield 56) 3 50 := tvDl_get dlk_X6_minute 25 rfl rfl
theorem dk_X6_minute_50 : tvD cX6_minute 50 (.iconst 0) 1 51 := tvDl_get dlk_X6_minute 26 rfl rfl
theorem dk_X6_minute_51 : tvD cX6_minute 51 (.istore_n 1) 1 52 := tvDl_get dlk_X6_minute 27 rfl rfl
theorem dk_X6_minute_52 : tvD cX6_minute 52 (.aload_n 0) 1 53 := tvDl_get dlk_X6_minute 28 rfl rfl
theorem dk_X6_minute_53 : tvD cX6_minute 53 (.invokevirtual 169) 3 56 := tvDl_get dlk_X6_minute 29 rfl rfl
theorem dk_X6_minute_56 : tvJ cX6_minute 56 (.ifCond .eq) 86 59 := tvJl_get dlk_X6_minute 30 rfl (by decide) rfl
theorem dk_X6_minute_59 : tvD cX6_minute 59 (.iconst 0) 1 60 := tvDl_get dlk_X6_minute 31 rfl rfl
theorem dk_X6_minute_60 : tvD cX6_minute 60 (.istore_n 2) 1 61 := tvDl_get dlk_X6_minute 32 rfl rfl
theorem dk_X6_minute_61 : tvD cX6_minute 61 (.iload_n 2) 1 62 := tvDl_get dlk_X6_minute 33 rfl rfl
theorem dk_X6_minute_62 : tvD cX6_minute 62 (.aload_n 0) 1 63 := tvDl_get dlk_X6_minute 34 rfl rfl
theorem dk_X6_minute_63 : tvD cX6_minute 63 (.getfield 28) 3 66 := tvDl_get dlk_X6_minute 35 rfl rfl
theorem dk_X6_minute_66 : tvD cX6_minute 66 (.getfield 79) 3 69 := tvDl_get dlk_X6_minute 36 rfl rfl
theorem dk_X6_minute_69 : tvJ cX6_minute 69 (.if_icmp .ge) 86 72 := tvJl_get dlk_X6_minute 37 rfl (by decide) rfl
theorem dk_X6_minute_72 : tvD cX6_minute 72 (.iload_n 1) 1 73 := tvDl_get dlk_X6_minute 38 rfl rfl
theorem dk_X6_minute_73 : tvD cX6_minute 73 (.aload_n 0) 1 74 := tvDl_get dlk_X6_minute 39 rfl rfl
theorem dk_X6_minute_74 : tvD cX6_minute 74 (.iload_n 2) 1 75 := tvDl_get dlk_X6_minute 40 rfl rfl
theorem dk_X6_minute_75 : tvD cX6_minute 75 (.invokevirtual 173) 3 78 := tvDl_get dlk_X6_minute 41 rfl rfl
theorem dk_X6_minute_78 : tvD cX6_minute 78 (.iadd) 1 79 := tvDl_get dlk_X6_minute 42 rfl rfl
theorem dk_X6_minute_79 : tvD cX6_minute 79 (.istore_n 1) 1 80 := tvDl_get dlk_X6_minute 43 rfl rfl
theorem dk_X6_minute_80 : tvD cX6_minute 80 (.iinc 2 1) 3 83 := tvDl_get dlk_X6_minute 44 rfl rfl
theorem dk_X6_minute_83 : tvJ cX6_minute 83 .goto 61 86 := tvJl_get dlk_X6_minute 45 rfl (by decide) rfl
theorem dk_X6_minute_86 : tvD cX6_minute 86 (.iconst 0) 1 87 := tvDl_get dlk_X6_minute 46 rfl rfl
theorem dk_X6_minute_87 : tvD cX6_minute 87 (.istore_n 2) 1 88 := tvDl_get dlk_X6_minute 47 rfl rfl
theorem dk_X6_minute_88 : tvD cX6_minute 88 (.iload_n 2) 1 89 := tvDl_get dlk_X6_minute 48 rfl rfl
theorem dk_X6_minute_89 : tvD cX6_minute 89 (.aload_n 0) 1 90 := tvDl_get dlk_X6_minute 49 rfl rfl
theorem dk_X6_minute_90 : tvD cX6_minute 90 (.getfield 28) 3 93 := tvDl_get dlk_X6_minute 50 rfl rfl
theorem dk_X6_minute_93 : tvD cX6_minute 93 (.getfield 79) 3 96 := tvDl_get dlk_X6_minute 51 rfl rfl
theorem dk_X6_minute_96 : tvJ cX6_minute 96 (.if_icmp .ge) 126 99 := tvJl_get dlk_X6_minute 52 rfl (by decide) rfl
theorem dk_X6_minute_99 : tvD cX6_minute 99 (.aload_n 0) 1 100 := tvDl_get dlk_X6_minute 53 rfl rfl
theorem dk_X6_minute_100 : tvD cX6_minute 100 (.getfield 28) 3 103 := tvDl_get dlk_X6_minute 54 rfl rfl
theorem dk_X6_minute_103 : tvD cX6_minute 103 (.iload_n 2) 1 104 := tvDl_get dlk_X6_minute 55 rfl rfl
theorem dk_X6_minute_104 : tvD cX6_minute 104 (.aload_n 0) 1 105 := tvDl_get dlk_X6_minute 56 rfl rfl
theorem dk_X6_minute_105 : tvD cX6_minute 105 (.getfield 52) 3 108 := tvDl_get dlk_X6_minute 57 rfl rfl
theorem dk_X6_minute_108 : tvD cX6_minute 108 (.invokevirtual 210) 3 111 := tvDl_get dlk_X6_minute 58 rfl rfl
theorem dk_X6_minute_111 : tvJ cX6_minute 111 (.ifCond .eq) 120 114 := tvJl_get dlk_X6_minute 59 rfl (by decide) rfl
def dl_X6_minute_1 : List (Nat × Instr × Nat) := [(114, .aload_n 0, 1), (115, .iload_n 2, 1), (116, .invokevirtual 152, 3), (119, .pop, 1), (120, .iinc 2 1, 3), (123, .goto (-35), 3), (126, .iload_n 1, 1), (127, .ireturn, 1)]
theorem dlk_X6_minute_1 : tvDl cX6_minute dl_X6_minute_1 = true := by decide +kernel
theorem dk_X6_minute_114 : tvD cX6_minute 114 (.aload_n 0) 1 115 := tvDl_get dlk_X6_minute_1 0 rfl rfl
theorem dk_X6_minute_115 : tvD cX6_minute 115 (.iload_n 2) 1 116 := tvDl_get dlk_X6_minute_1 1 rfl rfl
theorem dk_X6_minute_116 : tvD cX6_minute 116 (.invokevirtual 152) 3 119 := tvDl_get dlk_X6_minute_1 2 rfl rfl
theorem dk_X6_minute_119 : tvD cX6_minute 119 (.pop) 1 120 := tvDl_get dlk_X6_minute_1 3 rfl rfl
theorem dk_X6_minute_120 : tvD cX6_minute 120 (.iinc 2 1) 3 123 := tvDl_get dlk_X6_minute_1 4 rfl rfl
theorem dk_X6_minute_123 : tvJ cX6_minute 123 .goto 88 126 := tvJl_get dlk_X6_minute_1 5 rfl (by decide) rfl
theorem dk_X6_minute_126 : tvD cX6_minute 126 (.iload_n 1) 1 127 := tvDl_get dlk_X6_minute_1 6 rfl rfl
theorem dk_X6_minute_127 : tvD cX6_minute 127 (.ireturn) 1 128 := tvDl_get dlk_X6_minute_1 7 rfl rfl
def dl_X6_openIfDue : List (Nat × Instr × Nat) := [(0, .aload_n 0, 1), (1, .getfield 28, 3), (4, .iload_n 1, 1), (5, .invokevirtual 98, 3), (8, .bipush 112, 2), (10, .if_icmp .ne 14, 3), (13, .aload_n 0, 1), (14, .getfield 28, 3), (17, .iload_n 1, 1), (18, .invokevirtual 213, 3), (21, .ifCond .eq 5, 3), (24, .iconst 0, 1), (25, .ireturn, 1), (26, .aload_n 0, 1), (27, .getfield 28, 3), (30, .bipush 111, 2), (32, .iload_n 1, 1), (33, .aload_n 0, 1), (34, .getfield 52, 3), (37, .invokevirtual 201, 3), (40, .aload_n 0, 1), (41, .getfield 35, 3), (44, .bipush 111, 2), (46, .aload_n 0, 1), (47, .getfield 52, 3), (50, .iload_n 1, 1), (51, .invokevirtual 186, 3), (54, .iconst 1, 1), (55, .ireturn, 1)]
theorem dlk_X6_openIfDue : tvDl cX6_openIfDue dl_X6_openIfDue = true := by decide +kernel
theorem dk_X6_openIfDue_0 : tvD cX6_openIfDue 0 (.aload_n 0) 1 1 := tvDl_get dlk_X6_openIfDue 0 rfl rfl
theorem dk_X6_openIfDue_1 : tvD cX6_openIfDue 1 (.getfield 28) 3 4 := tvDl_get dlk_X6_openIfDue 1 rfl rfl
theorem dk_X6_openIfDue_4 : tvD cX6_openIfDue 4 (.iload_n 1) 1 5 := tvDl_get dlk_X6_openIfDue 2 rfl rfl
theorem dk_X6_openIfDue_5 : tvD cX6_openIfDue 5 (.invokevirtual 98) 3 8 := tvDl_get dlk_X6_openIfDue 3 rfl rfl
theorem dk_X6_openIfDue_8 : tvD cX6_openIfDue 8 (.bipush 112) 2 10 := tvDl_get dlk_X6_openIfDue 4 rfl rfl
theorem dk_X6_openIfDue_10 : tvJ cX6_openIfDue 10 (.if_icmp .ne) 24 13 := tvJl_get dlk_X6_openIfDue 5 rfl (by decide) rfl
theorem dk_X6_openIfDue_13 : tvD cX6_openIfDue 13 (.aload_n 0) 1 14 := tvDl_get dlk_X6_openIfDue 6 rfl rfl
theorem dk_X6_openIfDue_14 : tvD cX6_openIfDue 14 (.getfield 28) 3 17 := tvDl_get dlk_X6_openIfDue 7 rfl rfl
theorem dk_X6_openIfDue_17 : tvD cX6_openIfDue 17 (.iload_n 1) 1 18 := tvDl_get dlk_X6_openIfDue 8 rfl rfl
theorem dk_X6_openIfDue_18 : tvD cX6_openIfDue 18 (.invokevirtual 213) 3 21 := tvDl_get dlk_X6_openIfDue 9 rfl rfl
theorem dk_X6_openIfDue_21 : tvJ cX6_openIfDue 21 (.ifCond .eq) 26 24 := tvJl_get dlk_X6_openIfDue 10 rfl (by decide) rfl
theorem dk_X6_openIfDue_24 : tvD cX6_openIfDue 24 (.iconst 0) 1 25 := tvDl_get dlk_X6_openIfDue 11 rfl rfl
theorem dk_X6_openIfDue_25 : tvD cX6_openIfDue 25 (.ireturn) 1 26 := tvDl_get dlk_X6_openIfDue 12 rfl rfl
theorem dk_X6_openIfDue_26 : tvD cX6_openIfDue 26 (.aload_n 0) 1 27 := tvDl_get dlk_X6_openIfDue 13 rfl rfl
theorem dk_X6_openIfDue_27 : tvD cX6_openIfDue 27 (.getfield 28) 3 30 := tvDl_get dlk_X6_openIfDue 14 rfl rfl
theorem dk_X6_openIfDue_30 : tvD cX6_openIfDue 30 (.bipush 111) 2 32 := tvDl_get dlk_X6_openIfDue 15 rfl rfl
theorem dk_X6_openIfDue_32 : tvD cX6_openIfDue 32 (.iload_n 1) 1 33 := tvDl_get dlk_X6_openIfDue 16 rfl rfl
theorem dk_X6_openIfDue_33 : tvD cX6_openIfDue 33 (.aload_n 0) 1 34 := tvDl_get dlk_X6_openIfDue 17 rfl rfl
theorem dk_X6_openIfDue_34 : tvD cX6_openIfDue 34 (.getfield 52) 3 37 := tvDl_get dlk_X6_openIfDue 18 rfl rfl
theorem dk_X6_openIfDue_37 : tvD cX6_openIfDue 37 (.invokevirtual 201) 3 40 := tvDl_get dlk_X6_openIfDue 19 rfl rfl
theorem dk_X6_openIfDue_40 : tvD cX6_openIfDue 40 (.aload_n 0) 1 41 := tvDl_get dlk_X6_openIfDue 20 rfl rfl
theorem dk_X6_openIfDue_41 : tvD cX6_openIfDue 41 (.getfield 35) 3 44 := tvDl_get dlk_X6_openIfDue 21 rfl rfl
theorem dk_X6_openIfDue_44 : tvD cX6_openIfDue 44 (.bipush 111) 2 46 := tvDl_get dlk_X6_openIfDue 22 rfl rfl
theorem dk_X6_openIfDue_46 : tvD cX6_openIfDue 46 (.aload_n 0) 1 47 := tvDl_get dlk_X6_openIfDue 23 rfl rfl
theorem dk_X6_openIfDue_47 : tvD cX6_openIfDue 47 (.getfield 52) 3 50 := tvDl_get dlk_X6_openIfDue 24 rfl rfl
theorem dk_X6_openIfDue_50 : tvD cX6_openIfDue 50 (.iload_n 1) 1 51 := tvDl_get dlk_X6_openIfDue 25 rfl rfl
theorem dk_X6_openIfDue_51 : tvD cX6_openIfDue 51 (.invokevirtual 186) 3 54 := tvDl_get dlk_X6_openIfDue 26 rfl rfl
theorem dk_X6_openIfDue_54 : tvD cX6_openIfDue 54 (.iconst 1) 1 55 := tvDl_get dlk_X6_openIfDue 27 rfl rfl
theorem dk_X6_openIfDue_55 : tvD cX6_openIfDue 55 (.ireturn) 1 56 := tvDl_get dlk_X6_openIfDue 28 rfl rfl
def dl_X6_put : List (Nat × Instr × Nat) := [(0, .aload_n 0, 1), (1, .dup, 1), (2, .getfield 65, 3), (5, .iload_n 2, 1), (6, .i2l, 1), (7, .ladd, 1), (8, .putfield 65, 3), (11, .aload_n 0, 1), (12, .getfield 35, 3), (15, .bipush 100, 2), (17, .aload_n 0, 1), (18, .getfield 52, 3), (21, .iload_n 1, 1), (22, .invokevirtual 186, 3), (25, .aload_n 0, 1), (26, .getfield 28, 3), (29, .iload_n 1, 1), (30, .iload_n 2, 1), (31, .invokevirtual 195, 3), (34, .ireturn, 1)]
theorem dlk_X6_put : tvDl cX6_put dl_X6_put = true := by decide +kernel
theorem dk_X6_put_0 : tvD cX6_put 0 (.aload_n 0) 1 1 := tvDl_get dlk_X6_put 0 rfl rfl
theorem dk_X6_put_1 : tvD cX6_put 1 (.dup) 1 2 := tvDl_get dlk_X6_put 1 rfl rfl
theorem dk_X6_put_2 : tvD cX6_put 2 (.getfield 65) 3 5 := tvDl_get dlk_X6_put 2 rfl rfl
theorem dk_X6_put_5 : tvD cX6_put 5 (.iload_n 2) 1 6 := tvDl_get dlk_X6_put 3 rfl rfl
theorem dk_X6_put_6 : tvD cX6_put 6 (.i2l) 1 7 := tvDl_get dlk_X6_put 4 rfl rfl
theorem dk_X6_put_7 : tvD cX6_put 7 (.ladd) 1 8 := tvDl_get dlk_X6_put 5 rfl rfl
theorem dk_X6_put_8 : tvD cX6_put 8 (.putfield 65) 3 11 := tvDl_get dlk_X6_put 6 rfl rfl
theorem dk_X6_put_11 : tvD cX6_put 11 (.aload_n 0) 1 12 := tvDl_get dlk_X6_put 7 rfl rfl
theorem dk_X6_put_12 : tvD cX6_put 12 (.getfield 35) 3 15 := tvDl_get dlk_X6_put 8 rfl rfl
theorem dk_X6_put_15 : tvD cX6_put 15 (.bipush 100) 2 17 := tvDl_get dlk_X6_put 9 rfl rfl
theorem dk_X6_put_17 : tvD cX6_put 17 (.aload_n 0) 1 18 := tvDl_get dlk_X6_put 10 rfl rfl
theorem dk_X6_put_18 : tvD cX6_put 18 (.getfield 52) 3 21 := tvDl_get dlk_X6_put 11 rfl rfl
theorem dk_X6_put_21 : tvD cX6_put 21 (.iload_n 1) 1 22 := tvDl_get dlk_X6_put 12 rfl rfl
theorem dk_X6_put_22 : tvD cX6_put 22 (.invokevirtual 186) 3 25 := tvDl_get dlk_X6_put 13 rfl rfl
theorem dk_X6_put_25 : tvD cX6_put 25 (.aload_n 0) 1 26 := tvDl_get dlk_X6_put 14 rfl rfl
theorem dk_X6_put_26 : tvD cX6_put 26 (.getfield 28) 3 29 := tvDl_get dlk_X6_put 15 rfl rfl
theorem dk_X6_put_29 : tvD cX6_put 29 (.iload_n 1) 1 30 := tvDl_get dlk_X6_put 16 rfl rfl
theorem dk_X6_put_30 : tvD cX6_put 30 (.iload_n 2) 1 31 := tvDl_get dlk_X6_put 17 rfl rfl
theorem dk_X6_put_31 : tvD cX6_put 31 (.invokevirtual 195) 3 34 := tvDl_get dlk_X6_put 18 rfl rfl
theorem dk_X6_put_34 : tvD cX6_put 34 (.ireturn) 1 35 := tvDl_get dlk_X6_put 19 rfl rfl
def dl_X6_raiseAlarm : List (Nat × Instr × Nat) := [(0, .aload_n 0, 1), (1, .aload_n 0, 1), (2, .getfield 56, 3), (5, .iload_n 1, 1), (6, .iadd, 1), (7, .bipush 99, 2), (9, .invokestatic 234, 3), (12, .putfield 56, 3), (15, .return_, 1)]
theorem dlk_X6_raiseAlarm : tvDl cX6_raiseAlarm dl_X6_raiseAlarm = true := by decide +kernel
theorem dk_X6_raiseAlarm_0 : tvD cX6_raiseAlarm 0 (.aload_n 0) 1 1 := tvDl_get dlk_X6_raiseAlarm 0 rfl rfl
theorem dk_X6_raiseAlarm_1 : tvD cX6_raiseAlarm 1 (.aload_n 0) 1 2 := tvDl_get dlk_X6_raiseAlarm 1 rfl rfl
theorem dk_X6_raiseAlarm_2 : tvD cX6_raiseAlarm 2 (.getfield 56) 3 5 := tvDl_get dlk_X6_raiseAlarm 2 rfl rfl
theorem dk_X6_raiseAlarm_5 : tvD cX6_raiseAlarm 5 (.iload_n 1) 1 6 := tvDl_get dlk_X6_raiseAlarm 3 rfl rfl
theorem dk_X6_raiseAlarm_6 : tvD cX6_raiseAlarm 6 (.iadd) 1 7 := tvDl_get dlk_X6_raiseAlarm 4 rfl rfl
theorem dk_X6_raiseAlarm_7 : tvD cX6_raiseAlarm 7 (.bipush 99) 2 9 := tvDl_get dlk_X6_raiseAlarm 5 rfl rfl
theorem dk_X6_raiseAlarm_9 : tvD cX6_raiseAlarm 9 (.invokestatic 234) 3 12 := tvDl_get dlk_X6_raiseAlarm 6 rfl rfl
theorem dk_X6_raiseAlarm_12 : tvD cX6_raiseAlarm 12 (.putfield 56) 3 15 := tvDl_get dlk_X6_raiseAlarm 7 rfl rfl
theorem dk_X6_raiseAlarm_15 : tvD cX6_raiseAlarm 15 (.return_) 1 16 := tvDl_get dlk_X6_raiseAlarm 8 rfl rfl
def dl_X6_recode : List (Nat × Instr × Nat) := [(0, .aload_n 0, 1), (1, .getfield 21, 3), (4, .iload_n 1, 1), (5, .invokevirtual 176, 3), (8, .istore_n 3, 1), (9, .aload_n 0, 1), (10, .iload_n 1, 1), (11, .invokevirtual 158, 3), (14, .aload_n 0, 1), (15, .getfield 21, 3), (18, .iload_n 1, 1), (19, .iload_n 2, 1), (20, .invokevirtual 179, 3), (23, .iload_n 3, 1), (24, .ireturn, 1)]
theorem dlk_X6_recode : tvDl cX6_recode dl_X6_recode = true := by decide +kernel
theorem dk_X6_recode_0 : tvD cX6_recode 0 (.aload_n 0) 1 1 := tvDl_get dlk_X6_recode 0 rfl rfl
theorem dk_X6_recode_1 : tvD cX6_recode 1 (.getfield 21) 3 4 := tvDl_get dlk_X6_recode 1 rfl rfl
theorem dk_X6_recode_4 : tvD cX6_recode 4 (.iload_n 1) 1 5 := tvDl_get dlk_X6_recode 2 rfl rfl
theorem dk_X6_recode_5 : tvD cX6_recode 5 (.invokevirtual 176) 3 8 := tvDl_get dlk_X6_recode 3 rfl rfl
theorem dk_X6_recode_8 : tvD cX6_recode 8 (.istore_n 3) 1 9 := tvDl_get dlk_X6_recode 4 rfl rfl
theorem dk_X6_recode_9 : tvD cX6_recode 9 (.aload_n 0) 1 10 := tvDl_get dlk_X6_recode 5 rfl rfl
theorem dk_X6_recode_10 : tvD cX6_recode 10 (.iload_n 1) 1 11 := tvDl_get dlk_X6_recode 6 rfl rfl
theorem dk_X6_recode_11 : tvD cX6_recode 11 (.invokevirtual 158) 3 14 := tvDl_get dlk_X6_recode 7 rfl rfl
theorem dk_X6_recode_14 : tvD cX6_recode 14 (.aload_n 0) 1 15 := tvDl_get dlk_X6_recode 8 rfl rfl
theorem dk_X6_recode_15 : tvD cX6_recode 15 (.getfield 21) 3 18 := tvDl_get dlk_X6_recode 9 rfl rfl
theorem dk_X6_recode_18 : tvD cX6_recode 18 (.iload_n 1) 1 19 := tvDl_get dlk_X6_recode 10 rfl rfl
theorem dk_X6_recode_19 : tvD cX6_recode 19 (.iload_n 2) 1 20 := tvDl_get dlk_X6_recode 11 rfl rfl
theorem dk_X6_recode_20 : tvD cX6_recode 20 (.invokevirtual 179) 3 23 := tvDl_get dlk_X6_recode 12 rfl rfl
theorem dk_X6_recode_23 : tvD cX6_recode 23 (.iload_n 3) 1 24 := tvDl_get dlk_X6_recode 13 rfl rfl
theorem dk_X6_recode_24 : tvD cX6_recode 24 (.ireturn) 1 25 := tvDl_get dlk_X6_recode 14 rfl rfl
def dl_X6_refusalOfBox : List (Nat × Instr × Nat) := [(0, .aload_n 0, 1), (1, .getfield 21, 3), (4, .iload_n 1, 1), (5, .invokevirtual 76, 3), (8, .ifCond .eq 14, 3), (11, .aload_n 0, 1), (12, .getfield 21, 3), (15, .iload_n 2, 1), (16, .invokevirtual 76, 3), (19, .ifCond .ne 5, 3), (22, .iconst 1, 1), (23, .ireturn, 1), (24, .iload_n 1, 1), (25, .iload_n 2, 1), (26, .if_icmp .eq 13, 3), (29, .iload_n 3, 1), (30, .ifCond .lt 9, 3), (33, .iload_n 3, 1), (34, .bipush 60, 2), (36, .if_icmp .le 5, 3), (39, .iconst 2, 1), (40, .ireturn, 1), (41, .aload_n 0, 1), (42, .getfield 28, 3), (45, .getfield 79, 3), (48, .bipush 10, 2), (50, .if_icmp .lt 7, 3), (53, .iconst 3, 1), (54, .goto 4, 3), (57, .iconst 0, 1), (58, .ireturn, 1)]
theorem dlk_X6_refusalOfBox : tvDl cX6_refusalOfBox dl_X6_refusalOfBox = true := by decide +kernel
theorem dk_X6_refusalOfBox_0 : tvD cX6_refusalOfBox 0 (.aload_n 0) 1 1 := tvDl_get dlk_X6_refusalOfBox 0 rfl rfl
theorem dk_X6_refusalOfBox_1 : tvD cX6_refusalOfBox 1 (.getfield 21) 3 4 := tvDl_get dlk_X6_refusalOfBox 1 rfl rfl
theorem dk_X6_refusalOfBox_4 : tvD cX6_refusalOfBox 4 (.iload_n 1) 1 5 := tvDl_get dlk_X6_refusalOfBox 2 rfl rfl
theorem dk_X6_refusalOfBox_5 : tvD cX6_refusalOfBox 5 (.invokevirtual 76) 3 8 := tvDl_get dlk_X6_refusalOfBox 3 rfl rfl
theorem dk_X6_refusalOfBox_8 : tvJ cX6_refusalOfBox 8 (.ifCond .eq) 22 11 := tvJl_get dlk_X6_refusalOfBox 4 rfl (by decide) rfl
theorem dk_X6_refusalOfBox_11 : tvD cX6_refusalOfBox 11 (.aload_n 0) 1 12 := tvDl_get dlk_X6_refusalOfBox 5 rfl rfl
theorem dk_X6_refusalOfBox_12 : tvD cX6_refusalOfBox 12 (.getfield 21) 3 15 := tvDl_get dlk_X6_refusalOfBox 6 rfl rfl
theorem dk_X6_refusalOfBox_15 : tvD cX6_refusalOfBox 15 (.iload_n 2) 1 16 := tvDl_get dlk_X6_refusalOfBox 7 rfl rfl
theorem dk_X6_refusalOfBox_16 : tvD cX6_refusalOfBox 16 (.invokevirtual 76) 3 19 := tvDl_get dlk_X6_refusalOfBox 8 rfl rfl
theorem dk_X6_refusalOfBox_19 : tvJ cX6_refusalOfBox 19 (.ifCond .ne) 24 22 := tvJl_get dlk_X6_refusalOfBox 9 rfl (by decide) rfl
theorem dk_X6_refusalOfBox_22 : tvD cX6_refusalOfBox 22 (.iconst 1) 1 23 := tvDl_get dlk_X6_refusalOfBox 10 rfl rfl
theorem dk_X6_refusalOfBox_23 : tvD cX6_refusalOfBox 23 (.ireturn) 1 24 := tvDl_get dlk_X6_refusalOfBox 11 rfl rfl
theorem dk_X6_refusalOfBox_24 : tvD cX6_refusalOfBox 24 (.iload_n 1) 1 25 := tvDl_get dlk_X6_refusalOfBox 12 rfl rfl
theorem dk_X6_refusalOfBox_25 : tvD cX6_refusalOfBox 25 (.iload_n 2) 1 26 := tvDl_get dlk_X6_refusalOfBox 13 rfl rfl
theorem dk_X6_refusalOfBox_26 : tvJ cX6_refusalOfBox 26 (.if_icmp .eq) 39 29 := tvJl_get dlk_X6_refusalOfBox 14 rfl (by decide) rfl
theorem dk_X6_refusalOfBox_29 : tvD cX6_refusalOfBox 29 (.iload_n 3) 1 30 := tvDl_get dlk_X6_refusalOfBox 15 rfl rfl
theorem dk_X6_refusalOfBox_30 : tvJ cX6_refusalOfBox 30 (.ifCond .lt) 39 33 := tvJl_get dlk_X6_refusalOfBox 16 rfl (by decide) rfl
theorem dk_X6_refusalOfBox_33 : tvD cX6_refusalOfBox 33 (.iload_n 3) 1 34 := tvDl_get dlk_X6_refusalOfBox 17 rfl rfl
theorem dk_X6_refusalOfBox_34 : tvD cX6_refusalOfBox 34 (.bipush 60) 2 36 := tvDl_get dlk_X6_refusalOfBox 18 rfl rfl
theorem dk_X6_refusalOfBox_36 : tvJ cX6_refusalOfBox 36 (.if_icmp .le) 41 39 := tvJl_get dlk_X6_refusalOfBox 19 rfl (by decide) rfl
theorem dk_X6_refusalOfBox_39 : tvD cX6_refusalOfBox 39 (.iconst 2) 1 40 := tvDl_get dlk_X6_refusalOfBox 20 rfl rfl
theorem dk_X6_refusalOfBox_40 : tvD cX6_refusalOfBox 40 (.ireturn) 1 41 := tvDl_get dlk_X6_refusalOfBox 21 rfl rfl
theorem dk_X6_refusalOfBox_41 : tvD cX6_refusalOfBox 41 (.aload_n 0) 1 42 := tvDl_get dlk_X6_refusalOfBox 22 rfl rfl
theorem dk_X6_refusalOfBox_42 : tvD cX6_refusalOfBox 42 (.getfield 28) 3 45 := tvDl_get dlk_X6_refusalOfBox 23 rfl rfl
theorem dk_X6_refusalOfBox_45 : tvD cX6_refusalOfBox 45 (.getfield 79) 3 48 := tvDl_get dlk_X6_refusalOfBox 24 rfl rfl
theorem dk_X6_refusalOfBox_48 : tvD cX6_refusalOfBox 48 (.bipush 10) 2 50 := tvDl_get dlk_X6_refusalOfBox 25 rfl rfl
theorem dk_X6_refusalOfBox_50 : tvJ cX6_refusalOfBox 50 (.if_icmp .lt) 57 53 := tvJl_get dlk_X6_refusalOfBox 26 rfl (by decide) rfl
theorem dk_X6_refusalOfBox_53 : tvD cX6_refusalOfBox 53 (.iconst 3) 1 54 := tvDl_get dlk_X6_refusalOfBox 27 rfl rfl
theorem dk_X6_refusalOfBox_54 : tvJ cX6_refusalOfBox 54 .goto 58 57 := tvJl_get dlk_X6_refusalOfBox 28 rfl (by decide) rfl
theorem dk_X6_refusalOfBox_57 : tvD cX6_refusalOfBox 57 (.iconst 0) 1 58 := tvDl_get dlk_X6_refusalOfBox 29 rfl rfl
theorem dk_X6_refusalOfBox_58 : tvD cX6_refusalOfBox 58 (.ireturn) 1 59 := tvDl_get dlk_X6_refusalOfBox 30 rfl rfl
def dl_X6_refusalOfClose : List (Nat × Instr × Nat) := [(0, .aload_n 0, 1), (1, .getfield 28, 3), (4, .iload_n 1, 1), (5, .invokevirtual 80, 3), (8, .ifCond .ne 5, 3), (11, .iconst 1, 1), (12, .ireturn, 1), (13, .aload_n 0, 1), (14, .getfield 28, 3), (17, .iload_n 1, 1), (18, .invokevirtual 98, 3), (21, .bipush 99, 2), (23, .if_icmp .ne 7, 3), (26, .iconst 3, 1), (27, .goto 4, 3), (30, .iconst 0, 1), (31, .ireturn, 1)]
theorem dlk_X6_refusalOfClose : tvDl cX6_refusalOfClose dl_X6_refusalOfClose = true := by decide +kernel
theorem dk_X6_refusalOfClose_0 : tvD cX6_refusalOfClose 0 (.aload_n 0) 1 1 := tvDl_get dlk_X6_refusalOfClose 0 rfl rfl
theorem dk_X6_refusalOfClose_1 : tvD cX6_refusalOfClose 1 (.getfield 28) 3 4 := tvDl_get dlk_X6_refusalOfClose 1 rfl rfl
theorem dk_X6_refusalOfClose_4 : tvD cX6_refusalOfClose 4 (.iload_n 1) 1 5 := tvDl_get dlk_X6_refusalOfClose 2 rfl rfl
theorem dk_X6_refusalOfClose_5 : tvD cX6_refusalOfClose 5 (.invokevirtual 80) 3 8 := tvDl_get dlk_X6_refusalOfClose 3 rfl rfl
theorem dk_X6_refusalOfClose_8 : tvJ cX6_refusalOfClose 8 (.ifCond .ne) 13 11 := tvJl_get dlk_X6_refusalOfClose 4 rfl (by decide) rfl
theorem dk_X6_refusalOfClose_11 : tvD cX6_refusalOfClose 11 (.iconst 1) 1 12 := tvDl_get dlk_X6_refusalOfClose 5 rfl rfl
theorem dk_X6_refusalOfClose_12 : tvD cX6_refusalOfClose 12 (.ireturn) 1 13 := tvDl_get dlk_X6_refusalOfClose 6 rfl rfl
theorem dk_X6_refusalOfClose_13 : tvD cX6_refusalOfClose 13 (.aload_n 0) 1 14 := tvDl_get dlk_X6_refusalOfClose 7 rfl rfl
theorem dk_X6_refusalOfClose_14 : tvD cX6_refusalOfClose 14 (.getfield 28) 3 17 := tvDl_get dlk_X6_refusalOfClose 8 rfl rfl
theorem dk_X6_refusalOfClose_17 : tvD cX6_refusalOfClose 17 (.iload_n 1) 1 18 := tvDl_get dlk_X6_refusalOfClose 9 rfl rfl
theorem dk_X6_refusalOfClose_18 : tvD cX6_refusalOfClose 18 (.invokevirtual 98) 3 21 := tvDl_get dlk_X6_refusalOfClose 10 rfl rfl
theorem dk_X6_refusalOfClose_21 : tvD cX6_refusalOfClose 21 (.bipush 99) 2 23 := tvDl_get dlk_X6_refusalOfClose 11 rfl rfl
theorem dk_X6_refusalOfClose_23 : tvJ cX6_refusalOfClose 23 (.if_icmp .ne) 30 26 := tvJl_get dlk_X6_refusalOfClose 12 rfl (by decide) rfl
theorem dk_X6_refusalOfClose_26 : tvD cX6_refusalOfClose 26 (.iconst 3) 1 27 := tvDl_get dlk_X6_refusalOfClose 13 rfl rfl
theorem dk_X6_refusalOfClose_27 : tvJ cX6_refusalOfClose 27 .goto 31 30 := tvJl_get dlk_X6_refusalOfClose 14 rfl (by decide) rfl
theorem dk_X6_refusalOfClose_30 : tvD cX6_refusalOfClose 30 (.iconst 0) 1 31 := tvDl_get dlk_X6_refusalOfClose 15 rfl rfl
theorem dk_X6_refusalOfClose_31 : tvD cX6_refusalOfClose 31 (.ireturn) 1 32 := tvDl_get dlk_X6_refusalOfClose 16 rfl rfl
def dl_X6_refusalOfCode : List (Nat × Instr × Nat) := [(0, .aload_n 0, 1), (1, .getfield 21, 3), (4, .iload_n 1, 1), (5, .invokevirtual 76, 3), (8, .ifCond .ne 5, 3), (11, .iconst 1, 1), (12, .ireturn, 1), (13, .aload_n 0, 1), (14, .iload_n 3, 1), (15, .invokevirtual 69, 3), (18, .ifCond .ne 5, 3), (21, .iconst 2, 1), (22, .ireturn, 1), (23, .aload_n 0, 1), (24, .iload_n 1, 1), (25, .invokevirtual 85, 3), (28, .ifCond .eq 5, 3), (31, .iconst 3, 1), (32, .ireturn, 1), (33, .aload_n 0, 1), (34, .getfield 21, 3), (37, .iload_n 1, 1), (38, .invokevirtual 91, 3), (41, .iload_n 2, 1), (42, .if_icmp .ne 7, 3), (45, .iconst 0, 1), (46, .goto 4, 3), (49, .iconst 4, 1), (50, .ireturn, 1)]
theorem dlk_X6_refusalOfCode : tvDl cX6_refusalOfCode dl_X6_refusalOfCode = true := by decide +kernel
theorem dk_X6_refusalOfCode_0 : tvD cX6_refusalOfCode 0 (.aload_n 0) 1 1 := tvDl_get dlk_X6_refusalOfCode 0 rfl rfl
theorem dk_X6_refusalOfCode_1 : tvD cX6_refusalOfCode 1 (.getfield 21) 3 4 := tvDl_get dlk_X6_refusalOfCode 1 rfl rfl
theorem dk_X6_refusalOfCode_4 : tvD cX6_refusalOfCode 4 (.iload_n 1) 1 5 := tvDl_get dlk_X6_refusalOfCode 2 rfl rfl
theorem dk_X6_refusalOfCode_5 : tvD cX6_refusalOfCode 5 (.invokevirtual 76) 3 8 := tvDl_get dlk_X6_refusalOfCode 3 rfl rfl
theorem dk_X6_refusalOfCode_8 : tvJ cX6_refusalOfCode 8 (.ifCond .ne) 13 11 := tvJl_get dlk_X6_refusalOfCode 4 rfl (by decide) rfl
theorem dk_X6_refusalOfCode_11 : tvD cX6_refusalOfCode 11 (.iconst 1) 1 12 := tvDl_get dlk_X6_refusalOfCode 5 rfl rfl
theorem dk_X6_refusalOfCode_12 : tvD cX6_refusalOfCode 12 (.ireturn) 1 13 := tvDl_get dlk_X6_refusalOfCode 6 rfl rfl
theorem dk_X6_refusalOfCode_13 : tvD cX6_refusalOfCode 13 (.aload_n 0) 1 14 := tvDl_get dlk_X6_refusalOfCode 7 rfl rfl
theorem dk_X6_refusalOfCode_14 : tvD cX6_refusalOfCode 14 (.iload_n 3) 1 15 := tvDl_get dlk_X6_refusalOfCode 8 rfl rfl
theorem dk_X6_refusalOfCode_15 : tvD cX6_refusalOfCode 15 (.invokevirtual 69) 3 18 := tvDl_get dlk_X6_refusalOfCode 9 rfl rfl
theorem dk_X6_refusalOfCode_18 : tvJ cX6_refusalOfCode 18 (.ifCond .ne) 23 21 := tvJl_get dlk_X6_refusalOfCode 10 rfl (by decide) rfl
theorem dk_X6_refusalOfCode_21 : tvD cX6_refusalOfCode 21 (.iconst 2) 1 22 := tvDl_get dlk_X6_refusalOfCode 11 rfl rfl
theorem dk_X6_refusalOfCode_22 : tvD cX6_refusalOfCode 22 (.ireturn) 1 23 := tvDl_get dlk_X6_refusalOfCode 12 rfl rfl
theorem dk_X6_refusalOfCode_23 : tvD cX6_refusalOfCode 23 (.aload_n 0) 1 24 := tvDl_get dlk_X6_refusalOfCode 13 rfl rfl
theorem dk_X6_refusalOfCode_24 : tvD cX6_refusalOfCode 24 (.iload_n 1) 1 25 := tvDl_get dlk_X6_refusalOfCode 14 rfl rfl
theorem dk_X6_refusalOfCode_25 : tvD cX6_refusalOfCode 25 (.invokevirtual 85) 3 28 := tvDl_get dlk_X6_refusalOfCode 15 rfl rfl
theorem dk_X6_refusalOfCode_28 : tvJ cX6_refusalOfCode 28 (.ifCond .eq) 33 31 := tvJl_get dlk_X6_refusalOfCode 16 rfl (by decide) rfl
theorem dk_X6_refusalOfCode_31 : tvD cX6_refusalOfCode 31 (.iconst 3) 1 32 := tvDl_get dlk_X6_refusalOfCode 17 rfl rfl
theorem dk_X6_refusalOfCode_32 : tvD cX6_refusalOfCode 32 (.ireturn) 1 33 := tvDl_get dlk_X6_refusalOfCode 18 rfl rfl
theorem dk_X6_refusalOfCode_33 : tvD cX6_refusalOfCode 33 (.aload_n 0) 1 34 := tvDl_get dlk_X6_refusalOfCode 19 rfl rfl
theorem dk_X6_refusalOfCode_34 : tvD cX6_refusalOfCode 34 (.getfield 21) 3 37 := tvDl_get dlk_X6_refusalOfCode 20 rfl rfl
theorem dk_X6_refusalOfCode_37 : tvD cX6_refusalOfCode 37 (.iload_n 1) 1 38 := tvDl_get dlk_X6_refusalOfCode 21 rfl rfl
theorem dk_X6_refusalOfCode_38 : tvD cX6_refusalOfCode 38 (.invokevirtual 91) 3 41 := tvDl_get dlk_X6_refusalOfCode 22 rfl rfl
theorem dk_X6_refusalOfCode_41 : tvD cX6_refusalOfCode 41 (.iload_n 2) 1 42 := tvDl_get dlk_X6_refusalOfCode 23 rfl rfl
theorem dk_X6_refusalOfCode_42 : tvJ cX6_refusalOfCode 42 (.if_icmp .ne) 49 45 := tvJl_get dlk_X6_refusalOfCode 24 rfl (by decide) rfl
theorem dk_X6_refusalOfCode_45 : tvD cX6_refusalOfCode 45 (.iconst 0) 1 46 := tvDl_get dlk_X6_refusalOfCode 25 rfl rfl
theorem dk_X6_refusalOfCode_46 : tvJ cX6_refusalOfCode 46 .goto 50 49 := tvJl_get dlk_X6_refusalOfCode 26 rfl (by decide) rfl
theorem dk_X6_refusalOfCode_49 : tvD cX6_refusalOfCode 49 (.iconst 4) 1 50 := tvDl_get dlk_X6_refusalOfCode 27 rfl rfl
theorem dk_X6_refusalOfCode_50 : tvD cX6_refusalOfCode 50 (.ireturn) 1 51 := tvDl_get dlk_X6_refusalOfCode 28 rfl rfl
def dl_X6_refusalOfHolder : List (Nat × Instr × Nat) := [(0, .aload_n 0, 1), (1, .iload_n 1, 1), (2, .invokevirtual 69, 3), (5, .ifCond .ne 5, 3), (8, .iconst 2, 1), (9, .ireturn, 1), (10, .aload_n 0, 1), (11, .getfield 21, 3), (14, .getfield 73, 3), (17, .bipush 8, 2), (19, .if_icmp .lt 7, 3), (22, .iconst 3, 1), (23, .goto 4, 3), (26, .iconst 0, 1), (27, .ireturn, 1)]
theorem dlk_X6_refusalOfHolder : tvDl cX6_refusalOfHolder dl_X6_refusalOfHolder = true := by decide +kernel
theorem dk_X6_refusalOfHolder_0 : tvD cX6_refusalOfHolder 0 (.aload_n 0) 1 1 := tvDl_get dlk_X6_refusalOfHolder 0 rfl rfl
theorem dk_X6_refusalOfHolder_1 : tvD cX6_refusalOfHolder 1 (.iload_n 1) 1 2 := tvDl_get dlk_X6_refusalOfHolder 1 rfl rfl
theorem dk_X6_refusalOfHolder_2 : tvD cX6_refusalOfHolder 2 (.invokevirtual 69) 3 5 := tvDl_get dlk_X6_refusalOfHolder 2 rfl rfl
theorem dk_X6_refusalOfHolder_5 : tvJ cX6_refusalOfHolder 5 (.ifCond .ne) 10 8 := tvJl_get dlk_X6_refusalOfHolder 3 rfl (by decide) rfl
theorem dk_X6_refusalOfHolder_8 : tvD cX6_refusalOfHolder 8 (.iconst 2) 1 9 := tvDl_get dlk_X6_refusalOfHolder 4 rfl rfl
theorem dk_X6_refusalOfHolder_9 : tvD cX6_refusalOfHolder 9 (.ireturn) 1 10 := tvDl_get dlk_X6_refusalOfHolder 5 rfl rfl
theorem dk_X6_refusalOfHolder_10 : tvD cX6_refusalOfHolder 10 (.aload_n 0) 1 11 := tvDl_get dlk_X6_refusalOfHolder 6 rfl rfl
theorem dk_X6_refusalOfHolder_11 : tvD cX6_refusalOfHolder 11 (.getfield 21) 3 14 := tvDl_get dlk_X6_refusalOfHolder 7 rfl rfl
theorem dk_X6_refusalOfHolder_14 : tvD cX6_refusalOfHolder 14 (.getfield 73) 3 17 := tvDl_get dlk_X6_refusalOfHolder 8 rfl rfl
theorem dk_X6_refusalOfHolder_17 : tvD cX6_refusalOfHolder 17 (.bipush 8) 2 19 := tvDl_get dlk_X6_refusalOfHolder 9 rfl rfl
theorem dk_X6_refusalOfHolder_19 : tvJ cX6_refusalOfHolder 19 (.if_icmp .lt) 26 22 := tvJl_get dlk_X6_refusalOfHolder 10 rfl (by decide) rfl
theorem dk_X6_refusalOfHolder_22 : tvD cX6_refusalOfHolder 22 (.iconst 3) 1 23 := tvDl_get dlk_X6_refusalOfHolder 11 rfl rfl
theorem dk_X6_refusalOfHolder_23 : tvJ cX6_refusalOfHolder 23 .goto 27 26 := tvJl_get dlk_X6_refusalOfHolder 12 rfl (by decide) rfl
theorem dk_X6_refusalOfHolder_26 : tvD cX6_refusalOfHolder 26 (.iconst 0) 1 27 := tvDl_get dlk_X6_refusalOfHolder 13 rfl rfl
theorem dk_X6_refusalOfHolder_27 : tvD cX6_refusalOfHolder 27 (.ireturn) 1 28 := tvDl_get dlk_X6_refusalOfHolder 14 rfl rfl
def dl_X6_refusalOfPut : List (Nat × Instr × Nat) := [(0, .aload_n 0, 1), (1, .getfield 28, 3), (4, .iload_n 1, 1), (5, .invokevirtual 80, 3), (8, .ifCond .ne 5, 3), (11, .iconst 1, 1), (12, .ireturn, 1), (13, .iload_n 2, 1), (14, .iconst 1, 1), (15, .if_icmp .lt 9, 3), (18, .iload_n 2, 1), (19, .bipush 99, 2), (21, .if_icmp .le 5, 3), (24, .iconst 2, 1), (25, .ireturn, 1), (26, .aload_n 0, 1), (27, .getfield 28, 3), (30, .iload_n 1, 1), (31, .invokevirtual 95, 3), (34, .iconst 5, 1), (35, .if_icmp .ge 7, 3), (38, .iconst 1, 1), (39, .goto 4, 3), (42, .iconst 0, 1), (43, .istore_n 3, 1), (44, .aload_n 0, 1), (45, .getfield 28, 3), (48, .iload_n 1, 1), (49, .invokevirtual 98, 3), (52, .bipush 111, 2), (54, .if_icmp .ne 11, 3), (57, .iload_n 3, 1), (58, .ifCond .eq 7, 3), (61, .iconst 0, 1), (62, .goto 4, 3), (65, .iconst 3, 1), (66, .ireturn, 1)]
theorem dlk_X6_refusalOfPut : tvDl cX6_refusalOfPut dl_X6_refusalOfPut = true := by decide +kernel
theorem dk_X6_refusalOfPut_0 : tvD cX6_refusalOfPut 0 (.aload_n 0) 1 1 := tvDl_get dlk_X6_refusalOfPut 0 rfl rfl
theorem dk_X6_refusalOfPut_1 : tvD cX6_refusalOfPut 1 (.getfield 28) 3 4 := tvDl_get dlk_X6_refusalOfPut 1 rfl rfl
theorem dk_X6_refusalOfPut_4 : tvD cX6_refusalOfPut 4 (.iload_n 1) 1 5 := tvDl_get dlk_X6_refusalOfPut 2 rfl rfl
theorem dk_X6_refusalOfPut_5 : tvD cX6_refusalOfPut 5 (.invokevirtual 80) 3 8 := tvDl_get dlk_X6_refusalOfPut 3 rfl rfl
theorem dk_X6_refusalOfPut_8 : tvJ cX6_refusalOfPut 8 (.ifCond .ne) 13 11 := tvJl_get dlk_X6_refusalOfPut 4 rfl (by decide) rfl
theorem dk_X6_refusalOfPut_11 : tvD cX6_refusalOfPut 11 (.iconst 1) 1 12 := tvDl_get dlk_X6_refusalOfPut 5 rfl rfl
theorem dk_X6_refusalOfPut_12 : tvD cX6_refusalOfPut 12 (.ireturn) 1 13 := tvDl_get dlk_X6_refusalOfPut 6 rfl rfl
theorem dk_X6_refusalOfPut_13 : tvD cX6_refusalOfPut 13 (.iload_n 2) 1 14 := tvDl_get dlk_X6_refusalOfPut 7 rfl rfl
theorem dk_X6_refusalOfPut_14 : tvD cX6_refusalOfPut 14 (.iconst 1) 1 15 := tvDl_get dlk_X6_refusalOfPut 8 rfl rfl
theorem dk_X6_refusalOfPut_15 : tvJ cX6_refusalOfPut 15 (.if_icmp .lt) 24 18 := tvJl_get dlk_X6_refusalOfPut 9 rfl (by decide) rfl
theorem dk_X6_refusalOfPut_18 : tvD cX6_refusalOfPut 18 (.iload_n 2) 1 19 := tvDl_get dlk_X6_refusalOfPut 10 rfl rfl
theorem dk_X6_refusalOfPut_19 : tvD cX6_refusalOfPut 19 (.bipush 99) 2 21 := tvDl_get dlk_X6_refusalOfPut 11 rfl rfl
theorem dk_X6_refusalOfPut_21 : tvJ cX6_refusalOfPut 21 (.if_icmp .le) 26 24 := tvJl_get dlk_X6_refusalOfPut 12 rfl (by decide) rfl
theorem dk_X6_refusalOfPut_24 : tvD cX6_refusalOfPut 24 (.iconst 2) 1 25 := tvDl_get dlk_X6_refusalOfPut 13 rfl rfl
theorem dk_X6_refusalOfPut_25 : tvD cX6_refusalOfPut 25 (.ireturn) 1 26 := tvDl_get dlk_X6_refusalOfPut 14 rfl rfl
theorem dk_X6_refusalOfPut_26 : tvD cX6_refusalOfPut 26 (.aload_n 0) 1 27 := tvDl_get dlk_X6_refusalOfPut 15 rfl rfl
theorem dk_X6_refusalOfPut_27 : tvD cX6_refusalOfPut 27 (.getfield 28) 3 30 := tvDl_get dlk_X6_refusalOfPut 16 rfl rfl
theorem dk_X6_refusalOfPut_30 : tvD cX6_refusalOfPut 30 (.iload_n 1) 1 31 := tvDl_get dlk_X6_refusalOfPut 17 rfl rfl
theorem dk_X6_refusalOfPut_31 : tvD cX6_refusalOfPut 31 (.invokevirtual 95) 3 34 := tvDl_get dlk_X6_refusalOfPut 18 rfl rfl
theorem dk_X6_refusalOfPut_34 : tvD cX6_refusalOfPut 34 (.iconst 5) 1 35 := tvDl_get dlk_X6_refusalOfPut 19 rfl rfl
theorem dk_X6_refusalOfPut_35 : tvJ cX6_refusalOfPut 35 (.if_icmp .ge) 42 38 := tvJl_get dlk_X6_refusalOfPut 20 rfl (by decide) rfl
theorem dk_X6_refusalOfPut_38 : tvD cX6_refusalOfPut 38 (.iconst 1) 1 39 := tvDl_get dlk_X6_refusalOfPut 21 rfl rfl
theorem dk_X6_refusalOfPut_39 : tvJ cX6_refusalOfPut 39 .goto 43 42 := tvJl_get dlk_X6_refusalOfPut 22 rfl (by decide) rfl
theorem dk_X6_refusalOfPut_42 : tvD cX6_refusalOfPut 42 (.iconst 0) 1 43 := tvDl_get dlk_X6_refusalOfPut 23 rfl rfl
theorem dk_X6_refusalOfPut_43 : tvD cX6_refusalOfPut 43 (.istore_n 3) 1 44 := tvDl_get dlk_X6_refusalOfPut 24 rfl rfl
theorem dk_X6_refusalOfPut_44 : tvD cX6_refusalOfPut 44 (.aload_n 0) 1 45 := tvDl_get dlk_X6_refusalOfPut 25 rfl rfl
theorem dk_X6_refusalOfPut_45 : tvD cX6_refusalOfPut 45 (.getfield 28) 3 48 := tvDl_get dlk_X6_refusalOfPut 26 rfl rfl
theorem dk_X6_refusalOfPut_48 : tvD cX6_refusalOfPut 48 (.iload_n 1) 1 49 := tvDl_get dlk_X6_refusalOfPut 27 rfl rfl
theorem dk_X6_refusalOfPut_49 : tvD cX6_refusalOfPut 49 (.invokevirtual 98) 3 52 := tvDl_get dlk_X6_refusalOfPut 28 rfl rfl
theorem dk_X6_refusalOfPut_52 : tvD cX6_refusalOfPut 52 (.bipush 111) 2 54 := tvDl_get dlk_X6_refusalOfPut 29 rfl rfl
theorem dk_X6_refusalOfPut_54 : tvJ cX6_refusalOfPut 54 (.if_icmp .ne) 65 57 := tvJl_get dlk_X6_refusalOfPut 30 rfl (by decide) rfl
theorem dk_X6_refusalOfPut_57 : tvD cX6_refusalOfPut 57 (.iload_n 3) 1 58 := tvDl_get dlk_X6_refusalOfPut 31 rfl rfl
theorem dk_X6_refusalOfPut_58 : tvJ cX6_refusalOfPut 58 (.ifCond .eq) 65 61 := tvJl_get dlk_X6_refusalOfPut 32 rfl (by decide) rfl
theorem dk_X6_refusalOfPut_61 : tvD cX6_refusalOfPut 61 (.iconst 0) 1 62 := tvDl_get dlk_X6_refusalOfPut 33 rfl rfl
theorem dk_X6_refusalOfPut_62 : tvJ cX6_refusalOfPut 62 .goto 66 65 := tvJl_get dlk_X6_refusalOfPut 34 rfl (by decide) rfl
theorem dk_X6_refusalOfPut_65 : tvD cX6_refusalOfPut 65 (.iconst 3) 1 66 := tvDl_get dlk_X6_refusalOfPut 35 rfl rfl
theorem dk_X6_refusalOfPut_66 : tvD cX6_refusalOfPut 66 (.ireturn) 1 67 := tvDl_get dlk_X6_refusalOfPut 36 rfl rfl
def dl_X6_refusalOfTake : List (Nat × Instr × Nat) := [(0, .aload_n 0, 1), (1, .getfield 28, 3), (4, .iload_n 1, 1), (5, .invokevirtual 80, 3), (8, .ifCond .ne 5, 3), (11, .iconst 1, 1), (12, .ireturn, 1), (13, .aload_n 0, 1), (14, .getfield 28, 3), (17, .iload_n 1, 1), (18, .invokevirtual 98, 3), (21, .bipush 111, 2), (23, .if_icmp .eq 5, 3), (26, .iconst 3, 1), (27, .ireturn, 1), (28, .aload_n 0, 1), (29, .getfield 28, 3), (32, .iload_n 1, 1), (33, .invokevirtual 95, 3), (36, .ifCond .ne 7, 3), (39, .iconst 5, 1), (40, .goto 4, 3), (43, .iconst 0, 1), (44, .ireturn, 1)]
theorem dlk_X6_refusalOfTake : tvDl cX6_refusalOfTake dl_X6_refusalOfTake = true := by decide +kernel
theorem dk_X6_refusalOfTake_0 : tvD cX6_refusalOfTake 0 (.aload_n 0) 1 1 := tvDl_get dlk_X6_refusalOfTake 0 rfl rfl
theorem dk_X6_refusalOfTake_1 : tvD cX6_refusalOfTake 1 (.getfield 28) 3 4 := tvDl_get dlk_X6_refusalOfTake 1 rfl rfl
theorem dk_X6_refusalOfTake_4 : tvD cX6_refusalOfTake 4 (.iload_n 1) 1 5 := tvDl_get dlk_X6_refusalOfTake 2 rfl rfl
theorem dk_X6_refusalOfTake_5 : tvD cX6_refusalOfTake 5 (.invokevirtual 80) 3 8 := tvDl_get dlk_X6_refusalOfTake 3 rfl rfl
theorem dk_X6_refusalOfTake_8 : tvJ cX6_refusalOfTake 8 (.ifCond .ne) 13 11 := tvJl_get dlk_X6_refusalOfTake 4 rfl (by decide) rfl
theorem dk_X6_refusalOfTake_11 : tvD cX6_refusalOfTake 11 (.iconst 1) 1 12 := tvDl_get dlk_X6_refusalOfTake 5 rfl rfl
theorem dk_X6_refusalOfTake_12 : tvD cX6_refusalOfTake 12 (.ireturn) 1 13 := tvDl_get dlk_X6_refusalOfTake 6 rfl rfl
theorem dk_X6_refusalOfTake_13 : tvD cX6_refusalOfTake 13 (.aload_n 0) 1 14 := tvDl_get dlk_X6_refusalOfTake 7 rfl rfl
theorem dk_X6_refusalOfTake_14 : tvD cX6_refusalOfTake 14 (.getfield 28) 3 17 := tvDl_get dlk_X6_refusalOfTake 8 rfl rfl
theorem dk_X6_refusalOfTake_17 : tvD cX6_refusalOfTake 17 (.iload_n 1) 1 18 := tvDl_get dlk_X6_refusalOfTake 9 rfl rfl
theorem dk_X6_refusalOfTake_18 : tvD cX6_refusalOfTake 18 (.invokevirtual 98) 3 21 := tvDl_get dlk_X6_refusalOfTake 10 rfl rfl
theorem dk_X6_refusalOfTake_21 : tvD cX6_refusalOfTake 21 (.bipush 111) 2 23 := tvDl_get dlk_X6_refusalOfTake 11 rfl rfl
theorem dk_X6_refusalOfTake_23 : tvJ cX6_refusalOfTake 23 (.if_icmp .eq) 28 26 := tvJl_get dlk_X6_refusalOfTake 12 rfl (by decide) rfl
theorem dk_X6_refusalOfTake_26 : tvD cX6_refusalOfTake 26 (.iconst 3) 1 27 := tvDl_get dlk_X6_refusalOfTake 13 rfl rfl
theorem dk_X6_refusalOfTake_27 : tvD cX6_refusalOfTake 27 (.ireturn) 1 28 := tvDl_get dlk_X6_refusalOfTake 14 rfl rfl
theorem dk_X6_refusalOfTake_28 : tvD cX6_refusalOfTake 28 (.aload_n 0) 1 29 := tvDl_get dlk_X6_refusalOfTake 15 rfl rfl
theorem dk_X6_refusalOfTake_29 : tvD cX6_refusalOfTake 29 (.getfield 28) 3 32 := tvDl_get dlk_X6_refusalOfTake 16 rfl rfl
theorem dk_X6_refusalOfTake_32 : tvD cX6_refusalOfTake 32 (.iload_n 1) 1 33 := tvDl_get dlk_X6_refusalOfTake 17 rfl rfl
theorem dk_X6_refusalOfTake_33 : tvD cX6_refusalOfTake 33 (.invokevirtual 95) 3 36 := tvDl_get dlk_X6_refusalOfTake 18 rfl rfl
theorem dk_X6_refusalOfTake_36 : tvJ cX6_refusalOfTake 36 (.ifCond .ne) 43 39 := tvJl_get dlk_X6_refusalOfTake 19 rfl (by decide) rfl
theorem dk_X6_refusalOfTake_39 : tvD cX6_refusalOfTake 39 (.iconst 5) 1 40 := tvDl_get dlk_X6_refusalOfTake 20 rfl rfl
theorem dk_X6_refusalOfTake_40 : tvJ cX6_refusalOfTake 40 .goto 44 43 := tvJl_get dlk_X6_refusalOfTake 21 rfl (by decide) rfl
theorem dk_X6_refusalOfTake_43 : tvD cX6_refusalOfTake 43 (.iconst 0) 1 44 := tvDl_get dlk_X6_refusalOfTake 22 rfl rfl
theorem dk_X6_refusalOfTake_44 : tvD cX6_refusalOfTake 44 (.ireturn) 1 45 := tvDl_get dlk_X6_refusalOfTake 23 rfl rfl
def dl_X6_refusalOfTide : List (Nat × Instr × Nat) := [(0, .iload_n 1, 1), (1, .bipush 60, 2), (3, .if_icmp .lt 14, 3), (6, .iload_n 1, 1), (7, .sipush 480, 3), (10, .if_icmp .gt 7, 3), (13, .iconst 1, 1), (14, .goto 4, 3), (17, .iconst 0, 1), (18, .istore_n 3, 1), (19, .iload_n 3, 1), (20, .ifCond .eq 18, 3), (23, .iload_n 2, 1), (24, .bipush 10, 2), (26, .if_icmp .lt 12, 3), (29, .iload_n 2, 1), (30, .iload_n 1, 1), (31, .if_icmp .gt 7, 3), (34, .iconst 0, 1), (35, .goto 4, 3), (38, .iconst 2, 1), (39, .ireturn, 1)]
theorem dlk_X6_refusalOfTide : tvDl cX6_refusalOfTide dl_X6_refusalOfTide = true := by decide +kernel
theorem dk_X6_refusalOfTide_0 : tvD cX6_refusalOfTide 0 (.iload_n 1) 1 1 := tvDl_get dlk_X6_refusalOfTide 0 rfl rfl
theorem dk_X6_refusalOfTide_1 : tvD cX6_refusalOfTide 1 (.bipush 60) 2 3 := tvDl_get dlk_X6_refusalOfTide 1 rfl rfl
theorem dk_X6_refusalOfTide_3 : tvJ cX6_refusalOfTide 3 (.if_icmp .lt) 17 6 := tvJl_get dlk_X6_refusalOfTide 2 rfl (by decide) rfl
theorem dk_X6_refusalOfTide_6 : tvD cX6_refusalOfTide 6 (.iload_n 1) 1 7 := tvDl_get dlk_X6_refusalOfTide 3 rfl rfl
theorem dk_X6_refusalOfTide_7 : tvD cX6_refusalOfTide 7 (.sipush 480) 3 10 := tvDl_get dlk_X6_refusalOfTide 4 rfl rfl
theorem dk_X6_refusalOfTide_10 : tvJ cX6_refusalOfTide 10 (.if_icmp .gt) 17 13 := tvJl_get dlk_X6_refusalOfTide 5 rfl (by decide) rfl
theorem dk_X6_refusalOfTide_13 : tvD cX6_refusalOfTide 13 (.iconst 1) 1 14 := tvDl_get dlk_X6_refusalOfTide 6 rfl rfl
theorem dk_X6_refusalOfTide_14 : tvJ cX6_refusalOfTide 14 .goto 18 17 := tvJl_get dlk_X6_refusalOfTide 7 rfl (by decide) rfl
theorem dk_X6_refusalOfTide_17 : tvD cX6_refusalOfTide 17 (.iconst 0) 1 18 := tvDl_get dlk_X6_refusalOfTide 8 rfl rfl
theorem dk_X6_refusalOfTide_18 : tvD cX6_refusalOfTide 18 (.istore_n 3) 1 19 := tvDl_get dlk_X6_refusalOfTide 9 rfl rfl
theorem dk_X6_refusalOfTide_19 : tvD cX6_refusalOfTide 19 (.iload_n 3) 1 20 := tvDl_get dlk_X6_refusalOfTide 10 rfl rfl
theorem dk_X6_refusalOfTide_20 : tvJ cX6_refusalOfTide 20 (.ifCond .eq) 38 23 := tvJl_get dlk_X6_refusalOfTide 11 rfl (by decide) rfl
theorem dk_X6_refusalOfTide_23 : tvD cX6_refusalOfTide 23 (.iload_n 2) 1 24 := tvDl_get dlk_X6_refusalOfTide 12 rfl rfl
theorem dk_X6_refusalOfTide_24 : tvD cX6_refusalOfTide 24 (.bipush 10) 2 26 := tvDl_get dlk_X6_refusalOfTide 13 rfl rfl
theorem dk_X6_refusalOfTide_26 : tvJ cX6_refusalOfTide 26 (.if_icmp .lt) 38 29 := tvJl_get dlk_X6_refusalOfTide 14 rfl (by decide) rfl
theorem dk_X6_refusalOfTide_29 : tvD cX6_refusalOfTide 29 (.iload_n 2) 1 30 := tvDl_get dlk_X6_refusalOfTide 15 rfl rfl
theorem dk_X6_refusalOfTide_30 : tvD cX6_refusalOfTide 30 (.iload_n 1) 1 31 := tvDl_get dlk_X6_refusalOfTide 16 rfl rfl
theorem dk_X6_refusalOfTide_31 : tvJ cX6_refusalOfTide 31 (.if_icmp .gt) 38 34 := tvJl_get dlk_X6_refusalOfTide 17 rfl (by decide) rfl
theorem dk_X6_refusalOfTide_34 : tvD cX6_refusalOfTide 34 (.iconst 0) 1 35 := tvDl_get dlk_X6_refusalOfTide 18 rfl rfl
theorem dk_X6_refusalOfTide_35 : tvJ cX6_refusalOfTide 35 .goto 39 38 := tvJl_get dlk_X6_refusalOfTide 19 rfl (by decide) rfl
theorem dk_X6_refusalOfTide_38 : tvD cX6_refusalOfTide 38 (.iconst 2) 1 39 := tvDl_get dlk_X6_refusalOfTide 20 rfl rfl
theorem dk_X6_refusalOfTide_39 : tvD cX6_refusalOfTide 39 (.ireturn) 1 40 := tvDl_get dlk_X6_refusalOfTide 21 rfl rfl
def dl_X6_refusalOfTurn : List (Nat × Instr × Nat) := [(0, .aload_n 0, 1), (1, .getfield 28, 3), (4, .iload_n 1, 1), (5, .invokevirtual 80, 3), (8, .ifCond .eq 14, 3), (11, .aload_n 0, 1), (12, .getfield 21, 3), (15, .iload_n 2, 1), (16, .invokevirtual 76, 3), (19, .ifCond .ne 5, 3), (22, .iconst 1, 1), (23, .ireturn, 1), (24, .aload_n 0, 1), (25, .getfield 28, 3), (28, .iload_n 1, 1), (29, .iload_n 2, 1), (30, .invokevirtual 81, 3), (33, .ifCond .ne 5, 3), (36, .iconst 2, 1), (37, .ireturn, 1), (38, .aload_n 0, 1), (39, .getfield 56, 3), (42, .bipush 50, 2), (44, .if_icmp .ge 23, 3), (47, .aload_n 0, 1), (48, .iload_n 2, 1), (49, .invokevirtual 85, 3), (52, .ifCond .ne 15, 3), (55, .aload_n 0, 1), (56, .getfield 28, 3), (59, .iload_n 1, 1), (60, .iload_n 2, 1), (61, .invokevirtual 88, 3), (64, .ifCond .ne 5, 3), (67, .iconst 3, 1), (68, .ireturn, 1), (69, .aload_n 0, 1), (70, .getfield 21, 3), (73, .iload_n 2, 1), (74, .invokevirtual 91, 3), (77, .iload_n 3, 1), (78, .if_icmp .ne 7, 3), (81, .iconst 0, 1), (82, .goto 4, 3), (85, .iconst 4, 1), (86, .ireturn, 1)]
theorem dlk_X6_refusalOfTurn : tvDl cX6_refusalOfTurn dl_X6_refusalOfTurn = true := by decide +kernel
theorem dk_X6_refusalOfTurn_0 : tvD cX6_refusalOfTurn 0 (.aload_n 0) 1 1 := tvDl_get dlk_X6_refusalOfTurn 0 rfl rfl
theorem dk_X6_refusalOfTurn_1 : tvD cX6_refusalOfTurn 1 (.getfield 28) 3 4 := tvDl_get dlk_X6_refusalOfTurn 1 rfl rfl
theorem dk_X6_refusalOfTurn_4 : tvD cX6_refusalOfTurn 4 (.iload_n 1) 1 5 := tvDl_get dlk_X6_refusalOfTurn 2 rfl rfl
theorem dk_X6_refusalOfTurn_5 : tvD cX6_refusalOfTurn 5 (.invokevirtual 80) 3 8 := tvDl_get dlk_X6_refusalOfTurn 3 rfl rfl
theorem dk_X6_refusalOfTurn_8 : tvJ cX6_refusalOfTurn 8 (.ifCond .eq) 22 11 := tvJl_get dlk_X6_refusalOfTurn 4 rfl (by decide) rfl
theorem dk_X6_refusalOfTurn_11 : tvD cX6_refusalOfTurn 11 (.aload_n 0) 1 12 := tvDl_get dlk_X6_refusalOfTurn 5 rfl rfl
theorem dk_X6_refusalOfTurn_12 : tvD cX6_refusalOfTurn 12 (.getfield 21) 3 15 := tvDl_get dlk_X6_refusalOfTurn 6 rfl rfl
theorem dk_X6_refusalOfTurn_15 : tvD cX6_refusalOfTurn 15 (.iload_n 2) 1 16 := tvDl_get dlk_X6_refusalOfTurn 7 rfl rfl
theorem dk_X6_refusalOfTurn_16 : tvD cX6_refusalOfTurn 16 (.invokevirtual 76) 3 19 := tvDl_get dlk_X6_refusalOfTurn 8 rfl rfl
theorem dk_X6_refusalOfTurn_19 : tvJ cX6_refusalOfTurn 19 (.ifCond .ne) 24 22 := tvJl_get dlk_X6_refusalOfTurn 9 rfl (by decide) rfl
theorem dk_X6_refusalOfTurn_22 : tvD cX6_refusalOfTurn 22 (.iconst 1) 1 23 := tvDl_get dlk_X6_refusalOfTurn 10 rfl rfl
theorem dk_X6_refusalOfTurn_23 : tvD cX6_refusalOfTurn 23 (.ireturn) 1 24 := tvDl_get dlk_X6_refusalOfTurn 11 rfl rfl
theorem dk_X6_refusalOfTurn_24 : tvD cX6_refusalOfTurn 24 (.aload_n 0) 1 25 := tvDl_get dlk_X6_refusalOfTurn 12 rfl rfl
theorem dk_X6_refusalOfTurn_25 : tvD cX6_refusalOfTurn 25 (.getfield 28) 3 28 := tvDl_get dlk_X6_refusalOfTurn 13 rfl rfl
theorem dk_X6_refusalOfTurn_28 : tvD cX6_refusalOfTurn 28 (.iload_n 1) 1 29 := tvDl_get dlk_X6_refusalOfTurn 14 rfl rfl
theorem dk_X6_refusalOfTurn_29 : tvD cX6_refusalOfTurn 29 (.iload_n 2) 1 30 := tvDl_get dlk_X6_refusalOfTurn 15 rfl rfl
theorem dk_X6_refusalOfTurn_30 : tvD cX6_refusalOfTurn 30 (.invokevirtual 81) 3 33 := tvDl_get dlk_X6_refusalOfTurn 16 rfl rfl
theorem dk_X6_refusalOfTurn_33 : tvJ cX6_refusalOfTurn 33 (.ifCond .ne) 38 36 := tvJl_get dlk_X6_refusalOfTurn 17 rfl (by decide) rfl
theorem dk_X6_refusalOfTurn_36 : tvD cX6_refusalOfTurn 36 (.iconst 2) 1 37 := tvDl_get dlk_X6_refusalOfTurn 18 rfl rfl
theorem dk_X6_refusalOfTurn_37 : tvD cX6_refusalOfTurn 37 (.ireturn) 1 38 := tvDl_get dlk_X6_refusalOfTurn 19 rfl rfl
theorem dk_X6_refusalOfTurn_38 : tvD cX6_refusalOfTurn 38 (.aload_n 0) 1 39 := tvDl_get dlk_X6_refusalOfTurn 20 rfl rfl
theorem dk_X6_refusalOfTurn_39 : tvD cX6_refusalOfTurn 39 (.getfield 56) 3 42 := tvDl_get dlk_X6_refusalOfTurn 21 rfl rfl
theorem dk_X6_refusalOfTurn_42 : tvD cX6_refusalOfTurn 42 (.bipush 50) 2 44 := tvDl_get dlk_X6_refusalOfTurn 22 rfl rfl
theorem dk_X6_refusalOfTurn_44 : tvJ cX6_refusalOfTurn 44 (.if_icmp .ge) 67 47 := tvJl_get dlk_X6_refusalOfTurn 23 rfl (by decide) rfl
theorem dk_X6_refusalOfTurn_47 : tvD cX6_refusalOfTurn 47 (.aload_n 0) 1 48 := tvDl_get dlk_X6_refusalOfTurn 24 rfl rfl
theorem dk_X6_refusalOfTurn_48 : tvD cX6_refusalOfTurn 48 (.iload_n 2) 1 49 := tvDl_get dlk_X6_refusalOfTurn 25 rfl rfl
theorem dk_X6_refusalOfTurn_49 : tvD cX6_refusalOfTurn 49 (.invokevirtual 85) 3 52 := tvDl_get dlk_X6_refusalOfTurn 26 rfl rfl
theorem dk_X6_refusalOfTurn_52 : tvJ cX6_refusalOfTurn 52 (.ifCond .ne) 67 55 := tvJl_get dlk_X6_refusalOfTurn 27 rfl (by decide) rfl
theorem dk_X6_refusalOfTurn_55 : tvD cX6_refusalOfTurn 55 (.aload_n 0) 1 56 := tvDl_get dlk_X6_refusalOfTurn 28 rfl rfl
theorem dk_X6_refusalOfTurn_56 : tvD cX6_refusalOfTurn 56 (.getfield 28) 3 59 := tvDl_get dlk_X6_refusalOfTurn 29 rfl rfl
theorem dk_X6_refusalOfTurn_59 : tvD cX6_refusalOfTurn 59 (.iload_n 1) 1 60 := tvDl_get dlk_X6_refusalOfTurn 30 rfl rfl
theorem dk_X6_refusalOfTurn_60 : tvD cX6_refusalOfTurn 60 (.iload_n 2) 1 61 := tvDl_get dlk_X6_refusalOfTurn 31 rfl rfl
theorem dk_X6_refusalOfTurn_61 : tvD cX6_refusalOfTurn 61 (.invokevirtual 88) 3 64 := tvDl_get dlk_X6_refusalOfTurn 32 rfl rfl
theorem dk_X6_refusalOfTurn_64 : tvJ cX6_refusalOfTurn 64 (.ifCond .ne) 69 67 := tvJl_get dlk_X6_refusalOfTurn 33 rfl (by decide) rfl
theorem dk_X6_refusalOfTurn_67 : tvD cX6_refusalOfTurn 67 (.iconst 3) 1 68 := tvDl_get dlk_X6_refusalOfTurn 34 rfl rfl
theorem dk_X6_refusalOfTurn_68 : tvD cX6_refusalOfTurn 68 (.ireturn) 1 69 := tvDl_get dlk_X6_refusalOfTurn 35 rfl rfl
theorem dk_X6_refusalOfTurn_69 : tvD cX6_refusalOfTurn 69 (.aload_n 0) 1 70 := tvDl_get dlk_X6_refusalOfTurn 36 rfl rfl
theorem dk_X6_refusalOfTurn_70 : tvD cX6_refusalOfTurn 70 (.getfield 21) 3 73 := tvDl_get dlk_X6_refusalOfTurn 37 rfl rfl
theorem dk_X6_refusalOfTurn_73 : tvD cX6_refusalOfTurn 73 (.iload_n 2) 1 74 := tvDl_get dlk_X6_refusalOfTurn 38 rfl rfl
theorem dk_X6_refusalOfTurn_74 : tvD cX6_refusalOfTurn 74 (.invokevirtual 91) 3 77 := tvDl_get dlk_X6_refusalOfTurn 39 rfl rfl
theorem dk_X6_refusalOfTurn_77 : tvD cX6_refusalOfTurn 77 (.iload_n 3) 1 78 := tvDl_get dlk_X6_refusalOfTurn 40 rfl rfl
theorem dk_X6_refusalOfTurn_78 : tvJ cX6_refusalOfTurn 78 (.if_icmp .ne) 85 81 := tvJl_get dlk_X6_refusalOfTurn 41 rfl (by decide) rfl
theorem dk_X6_refusalOfTurn_81 : tvD cX6_refusalOfTurn 81 (.iconst 0) 1 82 := tvDl_get dlk_X6_refusalOfTurn 42 rfl rfl
theorem dk_X6_refusalOfTurn_82 : tvJ cX6_refusalOfTurn 82 .goto 86 85 := tvJl_get dlk_X6_refusalOfTurn 43 rfl (by decide) rfl
theorem dk_X6_refusalOfTurn_85 : tvD cX6_refusalOfTurn 85 (.iconst 4) 1 86 := tvDl_get dlk_X6_refusalOfTurn 44 rfl rfl
theorem dk_X6_refusalOfTurn_86 : tvD cX6_refusalOfTurn 86 (.ireturn) 1 87 := tvDl_get dlk_X6_refusalOfTurn 45 rfl rfl
def dl_X6_refusalOfWait : List (Nat × Instr × Nat) := [(0, .iload_n 1, 1), (1, .iconst 1, 1), (2, .if_icmp .lt 10, 3), (5, .iload_n 1, 1), (6, .sipush 240, 3), (9, .if_icmp .le 7, 3), (12, .iconst 2, 1), (13, .goto 4, 3), (16, .iconst 0, 1), (17, .ireturn, 1)]
theorem dlk_X6_refusalOfWait : tvDl cX6_refusalOfWait dl_X6_refusalOfWait = true := by decide +kernel
theorem dk_X6_refusalOfWait_0 : tvD cX6_refusalOfWait 0 (.iload_n 1) 1 1 := tvDl_get dlk_X6_refusalOfWait 0 rfl rfl
theorem dk_X6_refusalOfWait_1 : tvD cX6_refusalOfWait 1 (.iconst 1) 1 2 := tvDl_get dlk_X6_refusalOfWait 1 rfl rfl
theorem dk_X6_refusalOfWait_2 : tvJ cX6_refusalOfWait 2 (.if_icmp .lt) 12 5 := tvJl_get dlk_X6_refusalOfWait 2 rfl (by decide) rfl
theorem dk_X6_refusalOfWait_5 : tvD cX6_refusalOfWait 5 (.iload_n 1) 1 6 := tvDl_get dlk_X6_refusalOfWait 3 rfl rfl
theorem dk_X6_refusalOfWait_6 : tvD cX6_refusalOfWait 6 (.sipush 240) 3 9 := tvDl_get dlk_X6_refusalOfWait 4 rfl rfl
theorem dk_X6_refusalOfWait_9 : tvJ cX6_refusalOfWait 9 (.if_icmp .le) 16 12 := tvJl_get dlk_X6_refusalOfWait 5 rfl (by decide) rfl
theorem dk_X6_refusalOfWait_12 : tvD cX6_refusalOfWait 12 (.iconst 2) 1 13 := tvDl_get dlk_X6_refusalOfWait 6 rfl rfl
theorem dk_X6_refusalOfWait_13 : tvJ cX6_refusalOfWait 13 .goto 17 16 := tvJl_get dlk_X6_refusalOfWait 7 rfl (by decide) rfl
theorem dk_X6_refusalOfWait_16 : tvD cX6_refusalOfWait 16 (.iconst 0) 1 17 := tvDl_get dlk_X6_refusalOfWait 8 rfl rfl
theorem dk_X6_refusalOfWait_17 : tvD cX6_refusalOfWait 17 (.ireturn) 1 18 := tvDl_get dlk_X6_refusalOfWait 9 rfl rfl
def dl_X6_searchOpening : List (Nat × Instr × Nat) := [(0, .aload_n 0, 1), (1, .getfield 28, 3), (4, .iload_n 1, 1), (5, .invokevirtual 213, 3), (8, .istore_n 2, 1), (9, .iload_n 2, 1), (10, .ifCond .ne 14, 3), (13, .aload_n 0, 1), (14, .invokevirtual 169, 3), (17, .ifCond .eq 7, 3), (20, .iconst 2, 1), (21, .goto 6, 3), (24, .iload_n 2, 1), (25, .iconst 1, 1), (26, .iadd, 1), (27, .istore_n 3, 1), (28, .iconst 0, 1), (29, .istore 4, 2), (31, .sipush 2048, 3), (34, .istore 5, 2), (36, .iload 5, 2), (38, .ifCond .le 41, 3), (41, .aload_n 0, 1), (42, .getfield 12, 3), (45, .aload_n 0, 1), (46, .getfield 52, 3), (49, .iload 4, 2), (51, .iload 5, 2), (53, .iadd, 1), (54, .iconst 1, 1), (55, .iadd, 1), (56, .invokevirtual 216, 3), (59, .iload_n 3, 1), (60, .if_icmp .ge 10, 3), (63, .iload 4, 2), (65, .iload 5, 2), (67, .iadd, 1), (68, .istore 4, 2), (70, .iload 5, 2), (72, .iconst 2, 1), (73, .idiv, 1), (74, .istore 5, 2), (76, .goto (-40), 3), (79, .iload 4, 2), (81, .iconst 1, 1), (82, .iadd, 1), (83, .ireturn, 1)]
theorem dlk_X6_searchOpening : tvDl cX6_searchOpening dl_X6_searchOpening = true := by decide +kernel
theorem dk_X6_searchOpening_0 : tvD cX6_searchOpening 0 (.aload_n 0) 1 1 := tvDl_get dlk_X6_searchOpening 0 rfl rfl
theorem dk_X6_searchOpening_1 : tvD cX6_searchOpening 1 (.getfield 28) 3 4 := tvDl_get dlk_X6_searchOpening 1 rfl rfl
theorem dk_X6_searchOpening_4 : tvD cX6_searchOpening 4 (.iload_n 1) 1 5 := tvDl_get dlk_X6_searchOpening 2 rfl rfl
theorem dk_X6_searchOpening_5 : tvD cX6_searchOpening 5 (.invokevirtual 213) 3 8 := tvDl_get dlk_X6_searchOpening 3 rfl rfl
theorem dk_X6_searchOpening_8 : tvD cX6_searchOpening 8 (.istore_n 2) 1 9 := tvDl_get dlk_X6_searchOpening 4 rfl rfl
theorem dk_X6_searchOpening_9 : tvD cX6_searchOpening 9 (.iload_n 2) 1 10 := tvDl_get dlk_X6_searchOpening 5 rfl rfl
theorem dk_X6_searchOpening_10 : tvJ cX6_searchOpening 10 (.ifCond .ne) 24 13 := tvJl_get dlk_X6_searchOpening 6 rfl (by decide) rfl
theorem dk_X6_searchOpening_13 : tvD cX6_searchOpening 13 (.aload_n 0) 1 14 := tvDl_get dlk_X6_searchOpening 7 rfl rfl
theorem dk_X6_searchOpening_14 : tvD cX6_searchOpening 14 (.invokevirtual 169) 3 17 := tvDl_get dlk_X6_searchOpening 8 rfl rfl
theorem dk_X6_searchOpening_17 : tvJ cX6_searchOpening 17 (.ifCond .eq) 24 20 := tvJl_get dlk_X6_searchOpening 9 rfl (by decide) rfl
theorem dk_X6_searchOpening_20 : tvD cX6_searchOpening 20 (.iconst 2) 1 21 := tvDl_get dlk_X6_searchOpening 10 rfl rfl
theorem dk_X6_searchOpening_21 : tvJ cX6_searchOpening 21 .goto 27 24 := tvJl_get dlk_X6_searchOpening 11 rfl (by decide) rfl
theorem dk_X6_searchOpening_24 : tvD cX6_searchOpening 24 (.iload_n 2) 1 25 := tvDl_get dlk_X6_searchOpening 12 rfl rfl
theorem dk_X6_searchOpening_25 : tvD cX6_searchOpening 25 (.iconst 1) 1 26 := tvDl_get dlk_X6_searchOpening 13 rfl rfl
theorem dk_X6_searchOpening_26 : tvD cX6_searchOpening 26 (.iadd) 1 27 := tvDl_get dlk_X6_searchOpening 14 rfl rfl
theorem dk_X6_searchOpening_27 : tvD cX6_searchOpening 27 (.istore_n 3) 1 28 := tvDl_get dlk_X6_searchOpening 15 rfl rfl
theorem dk_X6_searchOpening_28 : tvD cX6_searchOpening 28 (.iconst 0) 1 29 := tvDl_get dlk_X6_searchOpening 16 rfl rfl
theorem dk_X6_searchOpening_29 : tvD cX6_searchOpening 29 (.istore 4) 2 31 := tvDl_get dlk_X6_searchOpening 17 rfl rfl
theorem dk_X6_searchOpening_31 : tvD cX6_searchOpening 31 (.sipush 2048) 3 34 := tvDl_get dlk_X6_searchOpening 18 rfl rfl
theorem dk_X6_searchOpening_34 : tvD cX6_searchOpening 34 (.istore 5) 2 36 := tvDl_get dlk_X6_searchOpening 19 rfl rfl
theorem dk_X6_searchOpening_36 : tvD cX6_searchOpening 36 (.iload 5) 2 38 := tvDl_get dlk_X6_searchOpening 20 rfl rfl
theorem dk_X6_searchOpening_38 : tvJ cX6_searchOpening 38 (.ifCond .le) 79 41 := tvJl_get dlk_X6_searchOpening 21 rfl (by decide) rfl
theorem dk_X6_searchOpening_41 : tvD cX6_searchOpening 41 (.aload_n 0) 1 42 := tvDl_get dlk_X6_searchOpening 22 rfl rfl
theorem dk_X6_searchOpening_42 : tvD cX6_searchOpening 42 (.getfield 12) 3 45 := tvDl_get dlk_X6_searchOpening 23 rfl rfl
theorem dk_X6_searchOpening_45 : tvD cX6_searchOpening 45 (.aload_n 0) 1 46 := tvDl_get dlk_X6_searchOpening 24 rfl rfl
theorem dk_X6_searchOpening_46 : tvD cX6_searchOpening 46 (.getfield 52) 3 49 := tvDl_get dlk_X6_searchOpening 25 rfl rfl
theorem dk_X6_searchOpening_49 : tvD cX6_searchOpening 49 (.iload 4) 2 51 := tvDl_get dlk_X6_searchOpening 26 rfl rfl
theorem dk_X6_searchOpening_51 : tvD cX6_searchOpening 51 (.iload 5) 2 53 := tvDl_get dlk_X6_searchOpening 27 rfl rfl
theorem dk_X6_searchOpening_53 : tvD cX6_searchOpening 53 (.iadd) 1 54 := tvDl_get dlk_X6_searchOpening 28 rfl rfl
theorem dk_X6_searchOpening_54 : tvD cX6_searchOpening 54 (.iconst 1) 1 55 := tvDl_get dlk_X6_searchOpening 29 rfl rfl
theorem dk_X6_searchOpening_55 : tvD cX6_searchOpening 55 (.iadd) 1 56 := tvDl_get dlk_X6_searchOpening 30 rfl rfl
theorem dk_X6_searchOpening_56 : tvD cX6_searchOpening 56 (.invokevirtual 216) 3 59 := tvDl_get dlk_X6_searchOpening 31 rfl rfl
theorem dk_X6_searchOpening_59 : tvD cX6_searchOpening 59 (.iload_n 3) 1 60 := tvDl_get dlk_X6_searchOpening 32 rfl rfl
theorem dk_X6_searchOpening_60 : tvJ cX6_searchOpening 60 (.if_icmp .ge) 70 63 := tvJl_get dlk_X6_searchOpening 33 rfl (by decide) rfl
theorem dk_X6_searchOpening_63 : tvD cX6_searchOpening 63 (.iload 4) 2 65 := tvDl_get dlk_X6_searchOpening 34 rfl rfl
theorem dk_X6_searchOpening_65 : tvD cX6_searchOpening 65 (.iload 5) 2 67 := tvDl_get dlk_X6_searchOpening 35 rfl rfl
theorem dk_X6_searchOpening_67 : tvD cX6_searchOpening 67 (.iadd) 1 68 := tvDl_get dlk_X6_searchOpening 36 rfl rfl
theorem dk_X6_searchOpening_68 : tvD cX6_searchOpening 68 (.istore 4) 2 70 := tvDl_get dlk_X6_searchOpening 37 rfl rfl
theorem dk_X6_searchOpening_70 : tvD cX6_searchOpening 70 (.iload 5) 2 72 := tvDl_get dlk_X6_searchOpening 38 rfl rfl
theorem dk_X6_searchOpening_72 : tvD cX6_searchOpening 72 (.iconst 2) 1 73 := tvDl_get dlk_X6_searchOpening 39 rfl rfl
theorem dk_X6_searchOpening_73 : tvD cX6_searchOpening 73 (.idiv) 1 74 := tvDl_get dlk_X6_searchOpening 40 rfl rfl
theorem dk_X6_searchOpening_74 : tvD cX6_searchOpening 74 (.istore 5) 2 76 := tvDl_get dlk_X6_searchOpening 41 rfl rfl
theorem dk_X6_searchOpening_76 : tvJ cX6_searchOpening 76 .goto 36 79 := tvJl_get dlk_X6_searchOpening 42 rfl (by decide) rfl
theorem dk_X6_searchOpening_79 : tvD cX6_searchOpening 79 (.iload 4) 2 81 := tvDl_get dlk_X6_searchOpening 43 rfl rfl
theorem dk_X6_searchOpening_81 : tvD cX6_searchOpening 81 (.iconst 1) 1 82 := tvDl_get dlk_X6_searchOpening 44 rfl rfl
theorem dk_X6_searchOpening_82 : tvD cX6_searchOpening 82 (.iadd) 1 83 := tvDl_get dlk_X6_searchOpening 45 rfl rfl
theorem dk_X6_searchOpening_83 : tvD cX6_searchOpening 83 (.ireturn) 1 84 := tvDl_get dlk_X6_searchOpening 46 rfl rfl
def dl_X6_shut : List (Nat × Instr × Nat) := [(0, .aload_n 0, 1), (1, .getfield 28, 3), (4, .iload_n 1, 1), (5, .invokevirtual 98, 3), (8, .bipush 111, 2), (10, .if_icmp .ne 17, 3), (13, .aload_n 0, 1), (14, .getfield 35, 3), (17, .bipush 99, 2), (19, .aload_n 0, 1), (20, .getfield 52, 3), (23, .iload_n 1, 1), (24, .invokevirtual 186, 3), (27, .aload_n 0, 1), (28, .getfield 28, 3), (31, .bipush 99, 2), (33, .iload_n 1, 1), (34, .aload_n 0, 1), (35, .getfield 52, 3), (38, .invokevirtual 201, 3), (41, .aload_n 0, 1), (42, .getfield 28, 3), (45, .iload_n 1, 1), (46, .invokevirtual 95, 3), (49, .ireturn, 1)]
theorem dlk_X6_shut : tvDl cX6_shut dl_X6_shut = true := by decide +kernel
theorem dk_X6_shut_0 : tvD cX6_shut 0 (.aload_n 0) 1 1 := tvDl_get dlk_X6_shut 0 rfl rfl
theorem dk_X6_shut_1 : tvD cX6_shut 1 (.getfield 28) 3 4 := tvDl_get dlk_X6_shut 1 rfl rfl
theorem dk_X6_shut_4 : tvD cX6_shut 4 (.iload_n 1) 1 5 := tvDl_get dlk_X6_shut 2 rfl rfl
theorem dk_X6_shut_5 : tvD cX6_shut 5 (.invokevirtual 98) 3 8 := tvDl_get dlk_X6_shut 3 rfl rfl
theorem dk_X6_shut_8 : tvD cX6_shut 8 (.bipush 111) 2 10 := tvDl_get dlk_X6_shut 4 rfl rfl
theorem dk_X6_shut_10 : tvJ cX6_shut 10 (.if_icmp .ne) 27 13 := tvJl_get dlk_X6_shut 5 rfl (by decide) rfl
theorem dk_X6_shut_13 : tvD cX6_shut 13 (.aload_n 0) 1 14 := tvDl_get dlk_X6_shut 6 rfl rfl
theorem dk_X6_shut_14 : tvD cX6_shut 14 (.getfield 35) 3 17 := tvDl_get dlk_X6_shut 7 rfl rfl
theorem dk_X6_shut_17 : tvD cX6_shut 17 (.bipush 99) 2 19 := tvDl_get dlk_X6_shut 8 rfl rfl
theorem dk_X6_shut_19 : tvD cX6_shut 19 (.aload_n 0) 1 20 := tvDl_get dlk_X6_shut 9 rfl rfl
theorem dk_X6_shut_20 : tvD cX6_shut 20 (.getfield 52) 3 23 := tvDl_get dlk_X6_shut 10 rfl rfl
theorem dk_X6_shut_23 : tvD cX6_shut 23 (.iload_n 1) 1 24 := tvDl_get dlk_X6_shut 11 rfl rfl
theorem dk_X6_shut_24 : tvD cX6_shut 24 (.invokevirtual 186) 3 27 := tvDl_get dlk_X6_shut 12 rfl rfl
theorem dk_X6_shut_27 : tvD cX6_shut 27 (.aload_n 0) 1 28 := tvDl_get dlk_X6_shut 13 rfl rfl
theorem dk_X6_shut_28 : tvD cX6_shut 28 (.getfield 28) 3 31 := tvDl_get dlk_X6_shut 14 rfl rfl
theorem dk_X6_shut_31 : tvD cX6_shut 31 (.bipush 99) 2 33 := tvDl_get dlk_X6_shut 15 rfl rfl
theorem dk_X6_shut_33 : tvD cX6_shut 33 (.iload_n 1) 1 34 := tvDl_get dlk_X6_shut 16 rfl rfl
theorem dk_X6_shut_34 : tvD cX6_shut 34 (.aload_n 0) 1 35 := tvDl_get dlk_X6_shut 17 rfl rfl
theorem dk_X6_shut_35 : tvD cX6_shut 35 (.getfield 52) 3 38 := tvDl_get dlk_X6_shut 18 rfl rfl
theorem dk_X6_shut_38 : tvD cX6_shut 38 (.invokevirtual 201) 3 41 := tvDl_get dlk_X6_shut 19 rfl rfl
theorem dk_X6_shut_41 : tvD cX6_shut 41 (.aload_n 0) 1 42 := tvDl_get dlk_X6_shut 20 rfl rfl
theorem dk_X6_shut_42 : tvD cX6_shut 42 (.getfield 28) 3 45 := tvDl_get dlk_X6_shut 21 rfl rfl
theorem dk_X6_shut_45 : tvD cX6_shut 45 (.iload_n 1) 1 46 := tvDl_get dlk_X6_shut 22 rfl rfl
theorem dk_X6_shut_46 : tvD cX6_shut 46 (.invokevirtual 95) 3 49 := tvDl_get dlk_X6_shut 23 rfl rfl
theorem dk_X6_shut_49 : tvD cX6_shut 49 (.ireturn) 1 50 := tvDl_get dlk_X6_shut 24 rfl rfl
def dl_X6_take : List (Nat × Instr × Nat) := [(0, .aload_n 0, 1), (1, .getfield 28, 3), (4, .iload_n 1, 1), (5, .invokevirtual 198, 3), (8, .istore_n 2, 1), (9, .aload_n 0, 1), (10, .dup, 1), (11, .getfield 65, 3), (14, .iload_n 2, 1), (15, .i2l, 1), (16, .lsub, 1), (17, .putfield 65, 3), (20, .aload_n 0, 1), (21, .getfield 35, 3), (24, .bipush 119, 2), (26, .aload_n 0, 1), (27, .getfield 52, 3), (30, .iload_n 1, 1), (31, .invokevirtual 186, 3), (34, .iload_n 2, 1), (35, .ireturn, 1)]
theorem dlk_X6_take : tvDl cX6_take dl_X6_take = true := by decide +kernel
theorem dk_X6_take_0 : tvD cX6_take 0 (.aload_n 0) 1 1 := tvDl_get dlk_X6_take 0 rfl rfl
theorem dk_X6_take_1 : tvD cX6_take 1 (.getfield 28) 3 4 := tvDl_get dlk_X6_take 1 rfl rfl
theorem dk_X6_take_4 : tvD cX6_take 4 (.iload_n 1) 1 5 := tvDl_get dlk_X6_take 2 rfl rfl
theorem dk_X6_take_5 : tvD cX6_take 5 (.invokevirtual 198) 3 8 := tvDl_get dlk_X6_take 3 rfl rfl
theorem dk_X6_take_8 : tvD cX6_take 8 (.istore_n 2) 1 9 := tvDl_get dlk_X6_take 4 rfl rfl
theorem dk_X6_take_9 : tvD cX6_take 9 (.aload_n 0) 1 10 := tvDl_get dlk_X6_take 5 rfl rfl
theorem dk_X6_take_10 : tvD cX6_take 10 (.dup) 1 11 := tvDl_get dlk_X6_take 6 rfl rfl
theorem dk_X6_take_11 : tvD cX6_take 11 (.getfield 65) 3 14 := tvDl_get dlk_X6_take 7 rfl rfl
theorem dk_X6_take_14 : tvD cX6_take 14 (.iload_n 2) 1 15 := tvDl_get dlk_X6_take 8 rfl rfl
theorem dk_X6_take_15 : tvD cX6_take 15 (.i2l) 1 16 := tvDl_get dlk_X6_take 9 rfl rfl
theorem dk_X6_take_16 : tvD cX6_take 16 (.lsub) 1 17 := tvDl_get dlk_X6_take 10 rfl rfl
theorem dk_X6_take_17 : tvD cX6_take 17 (.putfield 65) 3 20 := tvDl_get dlk_X6_take 11 rfl rfl
theorem dk_X6_take_20 : tvD cX6_take 20 (.aload_n 0) 1 21 := tvDl_get dlk_X6_take 12 rfl rfl
theorem dk_X6_take_21 : tvD cX6_take 21 (.getfield 35) 3 24 := tvDl_get dlk_X6_take 13 rfl rfl
theorem dk_X6_take_24 : tvD cX6_take 24 (.bipush 119) 2 26 := tvDl_get dlk_X6_take 14 rfl rfl
theorem dk_X6_take_26 : tvD cX6_take 26 (.aload_n 0) 1 27 := tvDl_get dlk_X6_take 15 rfl rfl
theorem dk_X6_take_27 : tvD cX6_take 27 (.getfield 52) 3 30 := tvDl_get dlk_X6_take 16 rfl rfl
theorem dk_X6_take_30 : tvD cX6_take 30 (.iload_n 1) 1 31 := tvDl_get dlk_X6_take 17 rfl rfl
theorem dk_X6_take_31 : tvD cX6_take 31 (.invokevirtual 186) 3 34 := tvDl_get dlk_X6_take 18 rfl rfl
theorem dk_X6_take_34 : tvD cX6_take 34 (.iload_n 2) 1 35 := tvDl_get dlk_X6_take 19 rfl rfl
theorem dk_X6_take_35 : tvD cX6_take 35 (.ireturn) 1 36 := tvDl_get dlk_X6_take 20 rfl rfl
def dl_X6_turn : List (Nat × Instr × Nat) := [(0, .aload_n 0, 1), (1, .iload_n 2, 1), (2, .invokevirtual 158, 3), (5, .aload_n 0, 1), (6, .getfield 28, 3), (9, .iload_n 1, 1), (10, .invokevirtual 98, 3), (13, .bipush 99, 2), (15, .if_icmp .ne 19, 3), (18, .aload_n 0, 1), (19, .getfield 28, 3), (22, .iload_n 1, 1), (23, .iload_n 2, 1), (24, .aload_n 0, 1), (25, .getfield 52, 3), (28, .invokevirtual 162, 3), (31, .goto 24, 3), (34, .aload_n 0, 1), (35, .getfield 28, 3), (38, .iload_n 1, 1), (39, .invokevirtual 166, 3), (42, .aload_n 0, 1), (43, .invokevirtual 169, 3), (46, .ifCond .eq 9, 3), (49, .aload_n 0, 1), (50, .iload_n 1, 1), (51, .invokevirtual 173, 3), (54, .pop, 1), (55, .aload_n 0, 1), (56, .getfield 28, 3), (59, .iload_n 1, 1), (60, .invokevirtual 98, 3), (63, .ireturn, 1)]
theorem dlk_X6_turn : tvDl cX6_turn dl_X6_turn = true := by decide +kernel
theorem dk_X6_turn_0 : tvD cX6_turn 0 (.aload_n 0) 1 1 := tvDl_get dlk_X6_turn 0 rfl rfl
theorem dk_X6_turn_1 : tvD cX6_turn 1 (.iload_n 2) 1 2 := tvDl_get dlk_X6_turn 1 rfl rfl
theorem dk_X6_turn_2 : tvD cX6_turn 2 (.invokevirtual 158) 3 5 := tvDl_get dlk_X6_turn 2 rfl rfl
theorem dk_X6_turn_5 : tvD cX6_turn 5 (.aload_n 0) 1 6 := tvDl_get dlk_X6_turn 3 rfl rfl
theorem dk_X6_turn_6 : tvD cX6_turn 6 (.getfield 28) 3 9 := tvDl_get dlk_X6_turn 4 rfl rfl
theorem dk_X6_turn_9 : tvD cX6_turn 9 (.iload_n 1) 1 10 := tvDl_get dlk_X6_turn 5 rfl rfl
theorem dk_X6_turn_10 : tvD cX6_turn 10 (.invokevirtual 98) 3 13 := tvDl_get dlk_X6_turn 6 rfl rfl
theorem dk_X6_turn_13 : tvD cX6_turn 13 (.bipush 99) 2 15 := tvDl_get dlk_X6_turn 7 rfl rfl
theorem dk_X6_turn_15 : tvJ cX6_turn 15 (.if_icmp .ne) 34 18 := tvJl_get dlk_X6_turn 8 rfl (by decide) rfl
theorem dk_X6_turn_18 : tvD cX6_turn 18 (.aload_n 0) 1 19 := tvDl_get dlk_X6_turn 9 rfl rfl
theorem dk_X6_turn_19 : tvD cX6_turn 19 (.getfield 28) 3 22 := tvDl_get dlk_X6_turn 10 rfl rfl
theorem dk_X6_turn_22 : tvD cX6_turn 22 (.iload_n 1) 1 23 := tvDl_get dlk_X6_turn 11 rfl rfl
theorem dk_X6_turn_23 : tvD cX6_turn 23 (.iload_n 2) 1 24 := tvDl_get dlk_X6_turn 12 rfl rfl
theorem dk_X6_turn_24 : tvD cX6_turn 24 (.aload_n 0) 1 25 := tvDl_get dlk_X6_turn 13 rfl rfl
theorem dk_X6_turn_25 : tvD cX6_turn 25 (.getfield 52) 3 28 := tvDl_get dlk_X6_turn 14 rfl rfl
theorem dk_X6_turn_28 : tvD cX6_turn 28 (.invokevirtual 162) 3 31 := tvDl_get dlk_X6_turn 15 rfl rfl
theorem dk_X6_turn_31 : tvJ cX6_turn 31 .goto 55 34 := tvJl_get dlk_X6_turn 16 rfl (by decide) rfl
theorem dk_X6_turn_34 : tvD cX6_turn 34 (.aload_n 0) 1 35 := tvDl_get dlk_X6_turn 17 rfl rfl
theorem dk_X6_turn_35 : tvD cX6_turn 35 (.getfield 28) 3 38 := tvDl_get dlk_X6_turn 18 rfl rfl
theorem dk_X6_turn_38 : tvD cX6_turn 38 (.iload_n 1) 1 39 := tvDl_get dlk_X6_turn 19 rfl rfl
theorem dk_X6_turn_39 : tvD cX6_turn 39 (.invokevirtual 166) 3 42 := tvDl_get dlk_X6_turn 20 rfl rfl
theorem dk_X6_turn_42 : tvD cX6_turn 42 (.aload_n 0) 1 43 := tvDl_get dlk_X6_turn 21 rfl rfl
theorem dk_X6_turn_43 : tvD cX6_turn 43 (.invokevirtual 169) 3 46 := tvDl_get dlk_X6_turn 22 rfl rfl
theorem dk_X6_turn_46 : tvJ cX6_turn 46 (.ifCond .eq) 55 49 := tvJl_get dlk_X6_turn 23 rfl (by decide) rfl
theorem dk_X6_turn_49 : tvD cX6_turn 49 (.aload_n 0) 1 50 := tvDl_get dlk_X6_turn 24 rfl rfl
theorem dk_X6_turn_50 : tvD cX6_turn 50 (.iload_n 1) 1 51 := tvDl_get dlk_X6_turn 25 rfl rfl
theorem dk_X6_turn_51 : tvD cX6_turn 51 (.invokevirtual 173) 3 54 := tvDl_get dlk_X6_turn 26 rfl rfl
theorem dk_X6_turn_54 : tvD cX6_turn 54 (.pop) 1 55 := tvDl_get dlk_X6_turn 27 rfl rfl
theorem dk_X6_turn_55 : tvD cX6_turn 55 (.aload_n 0) 1 56 := tvDl_get dlk_X6_turn 28 rfl rfl
theorem dk_X6_turn_56 : tvD cX6_turn 56 (.getfield 28) 3 59 := tvDl_get dlk_X6_turn 29 rfl rfl
theorem dk_X6_turn_59 : tvD cX6_turn 59 (.iload_n 1) 1 60 := tvDl_get dlk_X6_turn 30 rfl rfl
theorem dk_X6_turn_60 : tvD cX6_turn 60 (.invokevirtual 98) 3 63 := tvDl_get dlk_X6_turn 31 rfl rfl
theorem dk_X6_turn_63 : tvD cX6_turn 63 (.ireturn) 1 64 := tvDl_get dlk_X6_turn 32 rfl rfl
def dl_X6_waitForOpening : List (Nat × Instr × Nat) := [(0, .iconst 1, 1), (1, .istore_n 2, 1), (2, .iload_n 2, 1), (3, .sipush 3840, 3), (6, .if_icmp .gt 24, 3), (9, .aload_n 0, 1), (10, .invokevirtual 203, 3), (13, .pop, 1), (14, .aload_n 0, 1), (15, .iload_n 1, 1), (16, .invokevirtual 219, 3), (19, .ifCond .eq 5, 3), (22, .iload_n 2, 1), (23, .ireturn, 1), (24, .iinc 2 1, 3), (27, .goto (-25), 3), (30, .iconst (-1), 1), (31, .ireturn, 1)]
theorem dlk_X6_waitForOpening : tvDl cX6_waitForOpening dl_X6_waitForOpening = true := by decide +kernel
theorem dk_X6_waitForOpening_0 : tvD cX6_waitForOpening 0 (.iconst 1) 1 1 := tvDl_get dlk_X6_waitForOpening 0 rfl rfl
theorem dk_X6_waitForOpening_1 : tvD cX6_waitForOpening 1 (.istore_n 2) 1 2 := tvDl_get dlk_X6_waitForOpening 1 rfl rfl
theorem dk_X6_waitForOpening_2 : tvD cX6_waitForOpening 2 (.iload_n 2) 1 3 := tvDl_get dlk_X6_waitForOpening 2 rfl rfl
theorem dk_X6_waitForOpening_3 : tvD cX6_waitForOpening 3 (.sipush 3840) 3 6 := tvDl_get dlk_X6_waitForOpening 3 rfl rfl
theorem dk_X6_waitForOpening_6 : tvJ cX6_waitForOpening 6 (.if_icmp .gt) 30 9 := tvJl_get dlk_X6_waitForOpening 4 rfl (by decide) rfl
theorem dk_X6_waitForOpening_9 : tvD cX6_waitForOpening 9 (.aload_n 0) 1 10 := tvDl_get dlk_X6_waitForOpening 5 rfl rfl
theorem dk_X6_waitForOpening_10 : tvD cX6_waitForOpening 10 (.invokevirtual 203) 3 13 := tvDl_get dlk_X6_waitForOpening 6 rfl rfl
theorem dk_X6_waitForOpening_13 : tvD cX6_waitForOpening 13 (.pop) 1 14 := tvDl_get dlk_X6_waitForOpening 7 rfl rfl
theorem dk_X6_waitForOpening_14 : tvD cX6_waitForOpening 14 (.aload_n 0) 1 15 := tvDl_get dlk_X6_waitForOpening 8 rfl rfl
theorem dk_X6_waitForOpening_15 : tvD cX6_waitForOpening 15 (.iload_n 1) 1 16 := tvDl_get dlk_X6_waitForOpening 9 rfl rfl
theorem dk_X6_waitForOpening_16 : tvD cX6_waitForOpening 16 (.invokevirtual 219) 3 19 := tvDl_get dlk_X6_waitForOpening 10 rfl rfl
theorem dk_X6_waitForOpening_19 : tvJ cX6_waitForOpening 19 (.ifCond .eq) 24 22 := tvJl_get dlk_X6_waitForOpening 11 rfl (by decide) rfl
theorem dk_X6_waitForOpening_22 : tvD cX6_waitForOpening 22 (.iload_n 2) 1 23 := tvDl_get dlk_X6_waitForOpening 12 rfl rfl
theorem dk_X6_waitForOpening_23 : tvD cX6_waitForOpening 23 (.ireturn) 1 24 := tvDl_get dlk_X6_waitForOpening 13 rfl rfl
theorem dk_X6_waitForOpening_24 : tvD cX6_waitForOpening 24 (.iinc 2 1) 3 27 := tvDl_get dlk_X6_waitForOpening 14 rfl rfl
theorem dk_X6_waitForOpening_27 : tvJ cX6_waitForOpening 27 .goto 2 30 := tvJl_get dlk_X6_waitForOpening 15 rfl (by decide) rfl
theorem dk_X6_waitForOpening_30 : tvD cX6_waitForOpening 30 (.iconst (-1)) 1 31 := tvDl_get dlk_X6_waitForOpening 16 rfl rfl
theorem dk_X6_waitForOpening_31 : tvD cX6_waitForOpening 31 (.ireturn) 1 32 := tvDl_get dlk_X6_waitForOpening 17 rfl rfl
