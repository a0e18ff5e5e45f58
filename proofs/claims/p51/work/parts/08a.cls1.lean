theorem fl_RX0_9 : tvFl RX0 9 0 1 := ⟨_, _, _, rfl, by decide, rfl, tvIn_0, rfl, Or.inl (tvgc (tvc_3 (List.mem_of_getElem? (i := 75) (by decide +kernel))) rfl)⟩
theorem fl_RX0_15 : tvFl RX0 15 0 2 := ⟨_, _, _, rfl, by decide, rfl, tvIn_0, rfl, Or.inl (tvgc (tvc_3 (List.mem_of_getElem? (i := 76) (by decide +kernel))) rfl)⟩
theorem fl_RX0_18 : tvFl RX0 18 0 3 := ⟨_, _, _, rfl, by decide, rfl, tvIn_0, rfl, Or.inl (tvgc (tvc_3 (List.mem_of_getElem? (i := 77) (by decide +kernel))) rfl)⟩
theorem fl_RX0_21 : tvFl RX0 21 0 4 := ⟨_, _, _, rfl, by decide, rfl, tvIn_0, rfl, Or.inl (tvgc (tvc_3 (List.mem_of_getElem? (i := 78) (by decide +kernel))) rfl)⟩
theorem fl_RX0_25 : tvFl RX0 25 0 5 := ⟨_, _, _, rfl, by decide, rfl, tvIn_0, rfl, Or.inl (tvgc (tvc_3 (List.mem_of_getElem? (i := 79) (by decide +kernel))) rfl)⟩
theorem fl_RX0_28 : tvFl RX0 28 0 6 := ⟨_, _, _, rfl, by decide, rfl, tvIn_0, rfl, Or.inl (tvgc (tvc_3 (List.mem_of_getElem? (i := 80) (by decide +kernel))) rfl)⟩
theorem fl_RX0_31 : tvFl RX0 31 0 7 := ⟨_, _, _, rfl, by decide, rfl, tvIn_0, rfl, Or.inl (tvgc (tvc_3 (List.mem_of_getElem? (i := 81) (by decide +kernel))) rfl)⟩
theorem fl_RX0_34 : tvFl RX0 34 0 8 := ⟨_, _, _, rfl, by decide, rfl, tvIn_0, rfl, Or.inl (tvgc (tvc_3 (List.mem_of_getElem? (i := 82) (by decide +kernel))) rfl)⟩
theorem fl_RX0_37 : tvFl RX0 37 0 9 := ⟨_, _, _, rfl, by decide, rfl, tvIn_0, rfl, Or.inl (tvgc (tvc_3 (List.mem_of_getElem? (i := 83) (by decide +kernel))) rfl)⟩
theorem fl_RX0_40 : tvFl RX0 40 0 0 := ⟨_, _, _, rfl, by decide, rfl, tvIn_0, rfl, Or.inl (tvgc (tvc_3 (List.mem_of_getElem? (i := 72) (by decide +kernel))) rfl)⟩
theorem fl_RX2_9 : tvFl RX2 9 2 1 := ⟨_, _, _, rfl, by decide, rfl, tvIn_2, rfl, Or.inl (tvgc (tvc_3 (List.mem_of_getElem? (i := 54) (by decide +kernel))) rfl)⟩
theorem fl_RX2_15 : tvFl RX2 15 2 2 := ⟨_, _, _, rfl, by decide, rfl, tvIn_2, rfl, Or.inl (tvgc (tvc_3 (List.mem_of_getElem? (i := 55) (by decide +kernel))) rfl)⟩
theorem fl_RX2_18 : tvFl RX2 18 2 3 := ⟨_, _, _, rfl, by decide, rfl, tvIn_2, rfl, Or.inl (tvgc (tvc_3 (List.mem_of_getElem? (i := 56) (by decide +kernel))) rfl)⟩
theorem fl_RX2_21 : tvFl RX2 21 2 0 := ⟨_, _, _, rfl, by decide, rfl, tvIn_2, rfl, Or.inl (tvgc (tvc_3 (List.mem_of_getElem? (i := 51) (by decide +kernel))) rfl)⟩
theorem fl_RX4_9 : tvFl RX4 9 4 2 := ⟨_, _, _, rfl, by decide, rfl, tvIn_4, rfl, Or.inl (tvgc (tvc_3 (List.mem_of_getElem? (i := 114) (by decide +kernel))) rfl)⟩
theorem fl_RX4_15 : tvFl RX4 15 4 3 := ⟨_, _, _, rfl, by decide, rfl, tvIn_4, rfl, Or.inl (tvgc (tvc_3 (List.mem_of_getElem? (i := 115) (by decide +kernel))) rfl)⟩
theorem fl_RX4_19 : tvFl RX4 19 4 4 := ⟨_, _, _, rfl, by decide, rfl, tvIn_4, rfl, Or.inl (tvgc (tvc_3 (List.mem_of_getElem? (i := 116) (by decide +kernel))) rfl)⟩
theorem fl_RX4_22 : tvFl RX4 22 4 0 := ⟨_, _, _, rfl, by decide, rfl, tvIn_4, rfl, Or.inl (tvgc (tvc_3 (List.mem_of_getElem? (i := 111) (by decide +kernel))) rfl)⟩
theorem fl_RX4_26 : tvFl RX4 26 4 1 := ⟨_, _, _, rfl, by decide, rfl, tvIn_4, rfl, Or.inl (tvgc (tvc_3 (List.mem_of_getElem? (i := 112) (by decide +kernel))) rfl)⟩
theorem fl_RX7_7 : tvFl RX7 7 7 0 := ⟨_, _, _, rfl, by decide, rfl, tvIn_7, rfl, Or.inl (tvgc (tvc_3 (List.mem_of_getElem? (i := 38) (by decide +kernel))) rfl)⟩
theorem fl_RX7_13 : tvFl RX7 13 7 1 := ⟨_, _, _, rfl, by decide, rfl, tvIn_7, rfl, Or.inl (tvgc (tvc_3 (List.mem_of_getElem? (i := 39) (by decide +kernel))) rfl)⟩
theorem fw_0_0 : tvFw 0 0 := ⟨_, _, _, rfl, tyX0_ok, nmX0, rfl⟩
theorem fw_2_0 : tvFw 2 0 := ⟨_, _, _, rfl, tyX2_ok, nmX2, rfl⟩
theorem fw_4_0 : tvFw 4 0 := ⟨_, _, _, rfl, tyX4_ok, nmX4, rfl⟩
theorem fw_4_1 : tvFw 4 1 := ⟨_, _, _, rfl, tyX4_ok, nmX4, rfl⟩
theorem fw_7_0 : tvFw 7 0 := ⟨_, _, _, rfl, tyX7_ok, nmX7, rfl⟩
theorem fw_7_1 : tvFw 7 1 := ⟨_, _, _, rfl, tyX7_ok, nmX7, rfl⟩
theorem th_RX8_179_375 : tvTh RX8 179 375 183 34 "java/lang/IllegalArgumentException" "not allowed as an argument" := ⟨tvgc (tvc_1 (List.mem_of_getElem? (i := 116) (by decide +kernel))) rfl, tvgc (tvc_1 (List.mem_of_getElem? (i := 14) (by decide +kernel))) rfl, by decide +kernel, List.mem_of_getElem? (i := 25) rfl, by decide +kernel⟩
theorem th_RX8_215_381 : tvThN RX8 215 381 219 37 "java/util/NoSuchElementException" "there is none" := ⟨rfl, tvgc (tvc_1 (List.mem_of_getElem? (i := 164) (by decide +kernel))) rfl, tvgc (tvc_1 (List.mem_of_getElem? (i := 17) (by decide +kernel))) rfl, List.mem_of_getElem? (i := 28) rfl, by decide +kernel⟩
theorem th_RX8_294_373 : tvTh RX8 294 373 298 33 "java/lang/IndexOutOfBoundsException" "no such number" := ⟨tvgc (tvc_1 (List.mem_of_getElem? (i := 43) (by decide +kernel))) rfl, tvgc (tvc_1 (List.mem_of_getElem? (i := 13) (by decide +kernel))) rfl, by decide +kernel, List.mem_of_getElem? (i := 24) rfl, by decide +kernel⟩
theorem th_RX8_305_377 : tvTh RX8 305 377 309 35 "java/lang/IllegalStateException" "not possible now" := ⟨tvgc (tvc_1 (List.mem_of_getElem? (i := 132) (by decide +kernel))) rfl, tvgc (tvc_1 (List.mem_of_getElem? (i := 15) (by decide +kernel))) rfl, by decide +kernel, List.mem_of_getElem? (i := 26) rfl, by decide +kernel⟩
theorem th_RX8_341_379 : tvTh RX8 341 379 345 36 "java/lang/UnsupportedOperationException" "the code is wrong" := ⟨tvgc (tvc_1 (List.mem_of_getElem? (i := 148) (by decide +kernel))) rfl, tvgc (tvc_1 (List.mem_of_getElem? (i := 16) (by decide +kernel))) rfl, by decide +kernel, List.mem_of_getElem? (i := 27) rfl, by decide +kernel⟩
theorem ml_RX0_44 : Cond.methodLink RX0 44 arraycopyName ∈ tvGW := tvgc (tvc_2 (List.mem_of_getElem? (i := 34) (by decide +kernel))) rfl
theorem ml_RX0_50 : Cond.methodLink RX0 50 yX0_has ∈ tvGW := tvgc (tvc_1 (List.mem_of_getElem? (i := 224) (by decide +kernel))) rfl
theorem ml_RX0_54 : Cond.methodLink RX0 54 yX0_belongsTo ∈ tvGW := tvgc (tvc_7 (List.mem_of_getElem? (i := 18) (by decide +kernel))) rfl
theorem ml_RX0_58 : Cond.methodLink RX0 58 yX0_statusOf ∈ tvGW := tvgc (tvc_2 (List.mem_of_getElem? (i := 186) (by decide +kernel))) rfl
theorem ml_RX0_62 : Cond.methodLink RX0 62 yX0_firstOf ∈ tvGW := tvgc (tvc_4 (List.mem_of_getElem? (i := 79) (by decide +kernel))) rfl
theorem ml_RX0_66 : Cond.methodLink RX0 66 yX0_become ∈ tvGW := tvgc (tvc_4 (List.mem_of_getElem? (i := 124) (by decide +kernel))) rfl
theorem ml_RX0_70 : Cond.methodLink RX0 70 yX0_sinceOf ∈ tvGW := tvgc (tvc_2 (List.mem_of_getElem? (i := 187) (by decide +kernel))) rfl
theorem ml_RX0_73 : Cond.methodLink RX0 73 yX0_pearlsIn ∈ tvGW := tvgc (tvc_2 (List.mem_of_getElem? (i := 230) (by decide +kernel))) rfl
theorem ml_RX0_76 : Cond.methodLink RX0 76 yX0_setValue ∈ tvGW := tvgc (tvc_4 (List.mem_of_getElem? (i := 175) (by decide +kernel))) rfl
theorem ml_RX0_80 : Cond.methodLink RX0 80 yX0_setPearls ∈ tvGW := tvgc (tvc_4 (List.mem_of_getElem? (i := 179) (by decide +kernel))) rfl
theorem ml_RX2_25 : Cond.methodLink RX2 25 arraycopyName ∈ tvGW := tvgc (tvc_2 (List.mem_of_getElem? (i := 27) (by decide +kernel))) rfl
theorem ml_RX2_31 : Cond.methodLink RX2 31 yX2_has ∈ tvGW := tvgc (tvc_4 (List.mem_of_getElem? (i := 71) (by decide +kernel))) rfl
theorem ml_RX2_35 : Cond.methodLink RX2 35 yJ9_max_7cf53 ∈ tvGW := tvgc (tvc_4 (List.mem_of_getElem? (i := 72) (by decide +kernel))) rfl
theorem ml_RX4_29 : Cond.methodLink RX4 29 arraycopyName ∈ tvGW := tvgc (tvc_2 (List.mem_of_getElem? (i := 39) (by decide +kernel))) rfl
theorem ml_RX4_35 : Cond.methodLink RX4 35 yX4_slotOf ∈ tvGW := tvgc (tvc_2 (List.mem_of_getElem? (i := 2) (by decide +kernel))) rfl
theorem ml_RX7_16 : Cond.methodLink RX7 16 yX7_lowBefore ∈ tvGW := tvgc (tvc_1 (List.mem_of_getElem? (i := 184) (by decide +kernel))) rfl
theorem ml_RX7_20 : Cond.methodLink RX7 20 yX7_isLowAt ∈ tvGW := tvgc (tvc_7 (List.mem_of_getElem? (i := 35) (by decide +kernel))) rfl
theorem ml_RX7_24 : Cond.methodLink RX7 24 yJ9_min_7cf53 ∈ tvGW := tvgc (tvc_1 (List.mem_of_getElem? (i := 189) (by decide +kernel))) rfl
theorem yk_J9_floorMod_7cf53 : tvYk yJ9_floorMod_7cf53 cJ9_floorMod_7cf53 3 (some .int) 2 := ⟨tvgc (tvc_2 (List.mem_of_getElem? (i := 68) (by decide +kernel))) rfl, tvgc (tvc_1 (List.mem_of_getElem? (i := 18) (by decide +kernel))) rfl, by decide +kernel, by decide +kernel, by decide +kernel⟩
theorem yi_J9_floorMod_7cf53 : Cond.static yJ9_floorMod_7cf53 ∈ tvGW := tvgc (tvc_2 (List.mem_of_getElem? (i := 67) (by decide +kernel))) rfl
theorem yk_J9_max_7cf53 : tvYk yJ9_max_7cf53 cJ9_max_7cf53 2 (some .int) 2 := ⟨tvgc (tvc_4 (List.mem_of_getElem? (i := 74) (by decide +kernel))) rfl, tvgc (tvc_1 (List.mem_of_getElem? (i := 18) (by decide +kernel))) rfl, by decide +kernel, by decide +kernel, by decide +kernel⟩
theorem yi_J9_max_7cf53 : Cond.static yJ9_max_7cf53 ∈ tvGW := tvgc (tvc_4 (List.mem_of_getElem? (i := 73) (by decide +kernel))) rfl
theorem yk_J9_min_7cf53 : tvYk yJ9_min_7cf53 cJ9_min_7cf53 2 (some .int) 2 := ⟨tvgc (tvc_1 (List.mem_of_getElem? (i := 191) (by decide +kernel))) rfl, tvgc (tvc_1 (List.mem_of_getElem? (i := 18) (by decide +kernel))) rfl, by decide +kernel, by decide +kernel, by decide +kernel⟩
theorem yi_J9_min_7cf53 : Cond.static yJ9_min_7cf53 ∈ tvGW := tvgc (tvc_1 (List.mem_of_getElem? (i := 190) (by decide +kernel))) rfl
theorem yk_X0_add : tvYk yX0_add cX0_add 5 (some .int) 3 := ⟨tvgc (tvc_4 (List.mem_of_getElem? (i := 41) (by decide +kernel))) rfl, tvgc (tvc_1 (List.mem_of_getElem? (i := 5) (by decide +kernel))) rfl, by decide +kernel, by decide +kernel, plainFor_of_name (by decide +kernel)⟩
theorem yi_X0_add : tvYi yX0_add := ⟨tvgc (tvc_4 (List.mem_of_getElem? (i := 39) (by decide +kernel))) rfl, tvgc (tvc_4 (List.mem_of_getElem? (i := 40) (by decide +kernel))) rfl⟩
theorem yk_X0_addPearl : tvYk yX0_addPearl cX0_addPearl 4 (some .int) 2 := ⟨tvgc (tvc_4 (List.mem_of_getElem? (i := 174) (by decide +kernel))) rfl, tvgc (tvc_1 (List.mem_of_getElem? (i := 5) (by decide +kernel))) rfl, by decide +kernel, by decide +kernel, plainFor_of_name (by decide +kernel)⟩
theorem yi_X0_addPearl : tvYi yX0_addPearl := ⟨tvgc (tvc_4 (List.mem_of_getElem? (i := 172) (by decide +kernel))) rfl, tvgc (tvc_4 (List.mem_of_getElem? (i := 173) (by decide +kernel))) rfl⟩
theorem yk_X0_awaits : tvYk yX0_awaits cX0_awaits 4 (some .boolean) 2 := ⟨tvgc (tvc_4 (List.mem_of_getElem? (i := 78) (by decide +kernel))) rfl, tvgc (tvc_1 (List.mem_of_getElem? (i := 5) (by decide +kernel))) rfl, by decide +kernel, by decide +kernel, plainFor_of_name (by decide +kernel)⟩
theorem yi_X0_awaits : tvYi yX0_awaits := ⟨tvgc (tvc_4 (List.mem_of_getElem? (i := 76) (by decide +kernel))) rfl, tvgc (tvc_4 (List.mem_of_getElem? (i := 77) (by decide +kernel))) rfl⟩
theorem yk_X0_become : tvYk yX0_become cX0_become 4 none 3 := ⟨tvgc (tvc_2 (List.mem_of_getElem? (i := 141) (by decide +kernel))) rfl, tvgc (tvc_1 (List.mem_of_getElem? (i := 5) (by decide +kernel))) rfl, by decide +kernel, by decide +kernel, plainFor_of_name (by decide +kernel)⟩
theorem yi_X0_become : tvYi yX0_become := ⟨tvgc (tvc_2 (List.mem_of_getElem? (i := 139) (by decide +kernel))) rfl, tvgc (tvc_2 (List.mem_of_getElem? (i := 140) (by decide +kernel))) rfl⟩
theorem yk_X0_belongsTo : tvYk yX0_belongsTo cX0_belongsTo 3 (some .boolean) 2 := ⟨tvgc (tvc_4 (List.mem_of_getElem? (i := 62) (by decide +kernel))) rfl, tvgc (tvc_1 (List.mem_of_getElem? (i := 5) (by decide +kernel))) rfl, by decide +kernel, by decide +kernel, plainFor_of_name (by decide +kernel)⟩
theorem yi_X0_belongsTo : tvYi yX0_belongsTo := ⟨tvgc (tvc_4 (List.mem_of_getElem? (i := 60) (by decide +kernel))) rfl, tvgc (tvc_4 (List.mem_of_getElem? (i := 61) (by decide +kernel))) rfl⟩
theorem yk_X0_copyFrom : tvYk yX0_copyFrom cX0_copyFrom 2 none 1 := ⟨tvgc (tvc_2 (List.mem_of_getElem? (i := 33) (by decide +kernel))) rfl, tvgc (tvc_1 (List.mem_of_getElem? (i := 5) (by decide +kernel))) rfl, by decide +kernel, by decide +kernel, plainFor_of_name (by decide +kernel)⟩
theorem yi_X0_copyFrom : tvYi yX0_copyFrom := ⟨tvgc (tvc_2 (List.mem_of_getElem? (i := 31) (by decide +kernel))) rfl, tvgc (tvc_2 (List.mem_of_getElem? (i := 32) (by decide +kernel))) rfl⟩
theorem yk_X0_countIn : tvYk yX0_countIn cX0_countIn 4 (some .int) 1 := ⟨tvgc (tvc_7 (List.mem_of_getElem? (i := 47) (by decide +kernel))) rfl, tvgc (tvc_1 (List.mem_of_getElem? (i := 5) (by decide +kernel))) rfl, by decide +kernel, by decide +kernel, plainFor_of_name (by decide +kernel)⟩
theorem yi_X0_countIn : tvYi yX0_countIn := ⟨tvgc (tvc_7 (List.mem_of_getElem? (i := 45) (by decide +kernel))) rfl, tvgc (tvc_7 (List.mem_of_getElem? (i := 46) (by decide +kernel))) rfl⟩
theorem yk_X0_countOf : tvYk yX0_countOf cX0_countOf 4 (some .int) 1 := ⟨tvgc (tvc_7 (List.mem_of_getElem? (i := 17) (by decide +kernel))) rfl, tvgc (tvc_1 (List.mem_of_getElem? (i := 5) (by decide +kernel))) rfl, by decide +kernel, by decide +kernel, plainFor_of_name (by decide +kernel)⟩
theorem yi_X0_countOf : tvYi yX0_countOf := ⟨tvgc (tvc_7 (List.mem_of_getElem? (i := 15) (by decide +kernel))) rfl, tvgc (tvc_7 (List.mem_of_getElem? (i := 16) (by decide +kernel))) rfl⟩
theorem yk_X0_firstOf : tvYk yX0_firstOf cX0_firstOf 2 (some .int) 1 := ⟨tvgc (tvc_4 (List.mem_of_getElem? (i := 82) (by decide +kernel))) rfl, tvgc (tvc_1 (List.mem_of_getElem? (i := 5) (by decide +kernel))) rfl, by decide +kernel, by decide +kernel, plainFor_of_name (by decide +kernel)⟩
theorem yi_X0_firstOf : tvYi yX0_firstOf := ⟨tvgc (tvc_4 (List.mem_of_getElem? (i := 80) (by decide +kernel))) rfl, tvgc (tvc_4 (List.mem_of_getElem? (i := 81) (by decide +kernel))) rfl⟩
theorem yk_X0_halfOpen : tvYk yX0_halfOpen cX0_halfOpen 4 none 3 := ⟨tvgc (tvc_4 (List.mem_of_getElem? (i := 123) (by decide +kernel))) rfl, tvgc (tvc_1 (List.mem_of_getElem? (i := 5) (by decide +kernel))) rfl, by decide +kernel, by decide +kernel, plainFor_of_name (by decide +kernel)⟩
theorem yi_X0_halfOpen : tvYi yX0_halfOpen := ⟨tvgc (tvc_4 (List.mem_of_getElem? (i := 121) (by decide +kernel))) rfl, tvgc (tvc_4 (List.mem_of_getElem? (i := 122) (by decide +kernel))) rfl⟩
theorem yk_X0_has : tvYk yX0_has cX0_has 2 (some .boolean) 1 := ⟨tvgc (tvc_1 (List.mem_of_getElem? (i := 207) (by decide +kernel))) rfl, tvgc (tvc_1 (List.mem_of_getElem? (i := 5) (by decide +kernel))) rfl, by decide +kernel, by decide +kernel, plainFor_of_name (by decide +kernel)⟩
theorem yi_X0_has : tvYi yX0_has := ⟨tvgc (tvc_1 (List.mem_of_getElem? (i := 205) (by decide +kernel))) rfl, tvgc (tvc_1 (List.mem_of_getElem? (i := 206) (by decide +kernel))) rfl⟩
theorem yk_X0_isOverdue : tvYk yX0_isOverdue cX0_isOverdue 5 (some .boolean) 2 := ⟨tvgc (tvc_2 (List.mem_of_getElem? (i := 185) (by decide +kernel))) rfl, tvgc (tvc_1 (List.mem_of_getElem? (i := 5) (by decide +kernel))) rfl, by decide +kernel, by decide +kernel, plainFor_of_name (by decide +kernel)⟩
theorem yi_X0_isOverdue : tvYi yX0_isOverdue := ⟨tvgc (tvc_2 (List.mem_of_getElem? (i := 183) (by decide +kernel))) rfl, tvgc (tvc_2 (List.mem_of_getElem? (i := 184) (by decide +kernel))) rfl⟩
theorem yk_X0_partnerOf : tvYk yX0_partnerOf cX0_partnerOf 3 (some .int) 2 := ⟨tvgc (tvc_7 (List.mem_of_getElem? (i := 6) (by decide +kernel))) rfl, tvgc (tvc_1 (List.mem_of_getElem? (i := 5) (by decide +kernel))) rfl, by decide +kernel, by decide +kernel, plainFor_of_name (by decide +kernel)⟩
theorem yi_X0_partnerOf : tvYi yX0_partnerOf := ⟨tvgc (tvc_7 (List.mem_of_getElem? (i := 4) (by decide +kernel))) rfl, tvgc (tvc_7 (List.mem_of_getElem? (i := 5) (by decide +kernel))) rfl⟩
theorem yk_X0_pearlsIn : tvYk yX0_pearlsIn cX0_pearlsIn 2 (some .int) 1 := ⟨tvgc (tvc_1 (List.mem_of_getElem? (i := 229) (by decide +kernel))) rfl, tvgc (tvc_1 (List.mem_of_getElem? (i := 5) (by decide +kernel))) rfl, by decide +kernel, by decide +kernel, plainFor_of_name (by decide +kernel)⟩
theorem yi_X0_pearlsIn : tvYi yX0_pearlsIn := ⟨tvgc (tvc_1 (List.mem_of_getElem? (i := 227) (by decide +kernel))) rfl, tvgc (tvc_1 (List.mem_of_getElem? (i := 228) (by decide +kernel))) rfl⟩
theorem yk_X0_remainingOf : tvYk yX0_remainingOf cX0_remainingOf 2 (some .int) 1 := ⟨tvgc (tvc_2 (List.mem_of_getElem? (i := 181) (by decide +kernel))) rfl, tvgc (tvc_1 (List.mem_of_getElem? (i := 5) (by decide +kernel))) rfl, by decide +kernel, by decide +kernel, plainFor_of_name (by decide +kernel)⟩
theorem yi_X0_remainingOf : tvYi yX0_remainingOf := ⟨tvgc (tvc_2 (List.mem_of_getElem? (i := 179) (by decide +kernel))) rfl, tvgc (tvc_2 (List.mem_of_getElem? (i := 180) (by decide +kernel))) rfl⟩
theorem yk_X0_setPearls : tvYk yX0_setPearls cX0_setPearls 3 (some .int) 2 := ⟨tvgc (tvc_4 (List.mem_of_getElem? (i := 182) (by decide +kernel))) rfl, tvgc (tvc_1 (List.mem_of_getElem? (i := 5) (by decide +kernel))) rfl, by decide +kernel, by decide +kernel, plainFor_of_name (by decide +kernel)⟩
theorem yi_X0_setPearls : tvYi yX0_setPearls := ⟨tvgc (tvc_4 (List.mem_of_getElem? (i := 181) (by decide +kernel))) rfl, tvg 14 (by decide +kernel) rfl⟩
theorem yk_X0_setValue : tvYk yX0_setValue cX0_setValue 4 none 3 := ⟨tvgc (tvc_4 (List.mem_of_getElem? (i := 178) (by decide +kernel))) rfl, tvgc (tvc_1 (List.mem_of_getElem? (i := 5) (by decide +kernel))) rfl, by decide +kernel, by decide +kernel, plainFor_of_name (by decide +kernel)⟩
theorem yi_X0_setValue : tvYi yX0_setValue := ⟨tvgc (tvc_4 (List.mem_of_getElem? (i := 177) (by decide +kernel))) rfl, tvg 13 (by decide +kernel) rfl⟩
theorem yk_X0_sinceOf : tvYk yX0_sinceOf cX0_sinceOf 2 (some .int) 1 := ⟨tvgc (tvc_2 (List.mem_of_getElem? (i := 190) (by decide +kernel))) rfl, tvgc (tvc_1 (List.mem_of_getElem? (i := 5) (by decide +kernel))) rfl, by decide +kernel, by decide +kernel, plainFor_of_name (by decide +kernel)⟩
theorem yi_X0_sinceOf : tvYi yX0_sinceOf := ⟨tvgc (tvc_2 (List.mem_of_getElem? (i := 188) (by decide +kernel))) rfl, tvgc (tvc_2 (List.mem_of_getElem? (i := 189) (by decide +kernel))) rfl⟩
theorem yk_X0_startDelay : tvYk yX0_startDelay cX0_startDelay 2 none 1 := ⟨tvgc (tvc_4 (List.mem_of_getElem? (i := 128) (by decide +kernel))) rfl, tvgc (tvc_1 (List.mem_of_getElem? (i := 5) (by decide +kernel))) rfl, by decide +kernel, by decide +kernel, plainFor_of_name (by decide +kernel)⟩
theorem yi_X0_startDelay : tvYi yX0_startDelay := ⟨tvgc (tvc_4 (List.mem_of_getElem? (i := 126) (by decide +kernel))) rfl, tvgc (tvc_4 (List.mem_of_getElem? (i := 127) (by decide +kernel))) rfl⟩
theorem yk_X0_statusOf : tvYk yX0_statusOf cX0_statusOf 2 (some .char) 1 := ⟨tvgc (tvc_1 (List.mem_of_getElem? (i := 223) (by decide +kernel))) rfl, tvgc (tvc_1 (List.mem_of_getElem? (i := 5) (by decide +kernel))) rfl, by decide +kernel, by decide +kernel, plainFor_of_name (by decide +kernel)⟩
theorem yi_X0_statusOf : tvYi yX0_statusOf := ⟨tvgc (tvc_1 (List.mem_of_getElem? (i := 221) (by decide +kernel))) rfl, tvgc (tvc_1 (List.mem_of_getElem? (i := 222) (by decide +kernel))) rfl⟩
theorem yk_X0_valueOf : tvYk yX0_valueOf cX0_valueOf 3 (some .int) 2 := ⟨tvgc (tvc_1 (List.mem_of_getElem? (i := 233) (by decide +kernel))) rfl, tvgc (tvc_1 (List.mem_of_getElem? (i := 5) (by decide +kernel))) rfl, by decide +kernel, by decide +kernel, plainFor_of_name (by decide +kernel)⟩
theorem yi_X0_valueOf : tvYi yX0_valueOf := ⟨tvgc (tvc_1 (List.mem_of_getElem? (i := 231) (by decide +kernel))) rfl, tvgc (tvc_1 (List.mem_of_getElem? (i := 232) (by decide +kernel))) rfl⟩
theorem yk_X2_add : tvYk yX2_add cX2_add 3 (some .int) 1 := ⟨tvgc (tvc_2 (List.mem_of_getElem? (i := 78) (by decide +kernel))) rfl, tvgc (tvc_1 (List.mem_of_getElem? (i := 4) (by decide +kernel))) rfl, by decide +kernel, by decide +kernel, plainFor_of_name (by decide +kernel)⟩
theorem yi_X2_add : tvYi yX2_add := ⟨tvgc (tvc_2 (List.mem_of_getElem? (i := 76) (by decide +kernel))) rfl, tvgc (tvc_2 (List.mem_of_getElem? (i := 77) (by decide +kernel))) rfl⟩
theorem yk_X2_attemptsOf : tvYk yX2_attemptsOf cX2_attemptsOf 2 (some .int) 1 := ⟨tvgc (tvc_4 (List.mem_of_getElem? (i := 103) (by decide +kernel))) rfl, tvgc (tvc_1 (List.mem_of_getElem? (i := 4) (by decide +kernel))) rfl, by decide +kernel, by decide +kernel, plainFor_of_name (by decide +kernel)⟩
theorem yi_X2_attemptsOf : tvYi yX2_attemptsOf := ⟨tvgc (tvc_4 (List.mem_of_getElem? (i := 101) (by decide +kernel))) rfl, tvgc (tvc_4 (List.mem_of_getElem? (i := 102) (by decide +kernel))) rfl⟩
theorem yk_X2_codeOf : tvYk yX2_codeOf cX2_codeOf 2 (some .int) 1 := ⟨tvgc (tvc_4 (List.mem_of_getElem? (i := 86) (by decide +kernel))) rfl, tvgc (tvc_1 (List.mem_of_getElem? (i := 4) (by decide +kernel))) rfl, by decide +kernel, by decide +kernel, plainFor_of_name (by decide +kernel)⟩
theorem yi_X2_codeOf : tvYi yX2_codeOf := ⟨tvgc (tvc_4 (List.mem_of_getElem? (i := 84) (by decide +kernel))) rfl, tvgc (tvc_4 (List.mem_of_getElem? (i := 85) (by decide +kernel))) rfl⟩
theorem yk_X2_copyFrom : tvYk yX2_copyFrom cX2_copyFrom 2 none 1 := ⟨tvgc (tvc_2 (List.mem_of_getElem? (i := 26) (by decide +kernel))) rfl, tvgc (tvc_1 (List.mem_of_getElem? (i := 4) (by decide +kernel))) rfl, by decide +kernel, by decide +kernel, plainFor_of_name (by decide +kernel)⟩
theorem yi_X2_copyFrom : tvYi yX2_copyFrom := ⟨tvgc (tvc_2 (List.mem_of_getElem? (i := 24) (by decide +kernel))) rfl, tvgc (tvc_2 (List.mem_of_getElem? (i := 25) (by decide +kernel))) rfl⟩
theorem yk_X2_has : tvYk yX2_has cX2_has 2 (some .boolean) 1 := ⟨tvgc (tvc_4 (List.mem_of_getElem? (i := 37) (by decide +kernel))) rfl, tvgc (tvc_1 (List.mem_of_getElem? (i := 4) (by decide +kernel))) rfl, by decide +kernel, by decide +kernel, plainFor_of_name (by decide +kernel)⟩
theorem yi_X2_has : tvYi yX2_has := ⟨tvgc (tvc_4 (List.mem_of_getElem? (i := 35) (by decide +kernel))) rfl, tvgc (tvc_4 (List.mem_of_getElem? (i := 36) (by decide +kernel))) rfl⟩
theorem yk_X2_lock : tvYk yX2_lock cX2_lock 3 none 2 := ⟨tvgc (tvc_4 (List.mem_of_getElem? (i := 111) (by decide +kernel))) rfl, tvgc (tvc_1 (List.mem_of_getElem? (i := 4) (by decide +kernel))) rfl, by decide +kernel, by decide +kernel, plainFor_of_name (by decide +kernel)⟩
theorem yi_X2_lock : tvYi yX2_lock := ⟨tvgc (tvc_4 (List.mem_of_getElem? (i := 109) (by decide +kernel))) rfl, tvgc (tvc_4 (List.mem_of_getElem? (i := 110) (by decide +kernel))) rfl⟩
theorem yk_X2_lockedFor : tvYk yX2_lockedFor cX2_lockedFor 3 (some .int) 2 := ⟨tvgc (tvc_4 (List.mem_of_getElem? (i := 70) (by decide +kernel))) rfl, tvgc (tvc_1 (List.mem_of_getElem? (i := 4) (by decide +kernel))) rfl, by decide +kernel, by decide +kernel, plainFor_of_name (by decide +kernel)⟩
theorem yi_X2_lockedFor : tvYi yX2_lockedFor := ⟨tvgc (tvc_4 (List.mem_of_getElem? (i := 68) (by decide +kernel))) rfl, tvgc (tvc_4 (List.mem_of_getElem? (i := 69) (by decide +kernel))) rfl⟩
theorem yk_X2_setAttempts : tvYk yX2_setAttempts cX2_setAttempts 3 none 2 := ⟨tvgc (tvc_4 (List.mem_of_getElem? (i := 107) (by decide +kernel))) rfl, tvgc (tvc_1 (List.mem_of_getElem? (i := 4) (by decide +kernel))) rfl, by decide +kernel, by decide +kernel, plainFor_of_name (by decide +kernel)⟩
theorem yi_X2_setAttempts : tvYi yX2_setAttempts := ⟨tvgc (tvc_4 (List.mem_of_getElem? (i := 105) (by decide +kernel))) rfl, tvgc (tvc_4 (List.mem_of_getElem? (i := 106) (by decide +kernel))) rfl⟩
theorem yk_X2_setCode : tvYk yX2_setCode cX2_setCode 3 none 2 := ⟨tvgc (tvc_4 (List.mem_of_getElem? (i := 155) (by decide +kernel))) rfl, tvgc (tvc_1 (List.mem_of_getElem? (i := 4) (by decide +kernel))) rfl, by decide +kernel, by decide +kernel, plainFor_of_name (by decide +kernel)⟩
theorem yi_X2_setCode : tvYi yX2_setCode := ⟨tvgc (tvc_4 (List.mem_of_getElem? (i := 153) (by decide +kernel))) rfl, tvgc (tvc_4 (List.mem_of_getElem? (i := 154) (by decide +kernel))) rfl⟩
theorem yk_X4_add : tvYk yX4_add cX4_add 5 none 3 := ⟨tvgc (tvc_2 (List.mem_of_getElem? (i := 137) (by decide +kernel))) rfl, tvgc (tvc_1 (List.mem_of_getElem? (i := 6) (by decide +kernel))) rfl, by decide +kernel, by decide +kernel, plainFor_of_name (by decide +kernel)⟩
theorem yi_X4_add : tvYi yX4_add := ⟨tvgc (tvc_2 (List.mem_of_getElem? (i := 135) (by decide +kernel))) rfl, tvgc (tvc_2 (List.mem_of_getElem? (i := 136) (by decide +kernel))) rfl⟩
theorem yk_X4_copyFrom : tvYk yX4_copyFrom cX4_copyFrom 2 none 1 := ⟨tvgc (tvc_2 (List.mem_of_getElem? (i := 38) (by decide +kernel))) rfl, tvgc (tvc_1 (List.mem_of_getElem? (i := 6) (by decide +kernel))) rfl, by decide +kernel, by decide +kernel, plainFor_of_name (by decide +kernel)⟩
theorem yi_X4_copyFrom : tvYi yX4_copyFrom := ⟨tvgc (tvc_2 (List.mem_of_getElem? (i := 36) (by decide +kernel))) rfl, tvgc (tvc_2 (List.mem_of_getElem? (i := 37) (by decide +kernel))) rfl⟩
theorem yk_X4_has : tvYk yX4_has cX4_has 2 (some .boolean) 1 := ⟨tvgc (tvc_6 (List.mem_of_getElem? (i := 202) (by decide +kernel))) rfl, tvgc (tvc_1 (List.mem_of_getElem? (i := 6) (by decide +kernel))) rfl, by decide +kernel, by decide +kernel, plainFor_of_name (by decide +kernel)⟩
theorem yi_X4_has : tvYi yX4_has := ⟨tvgc (tvc_6 (List.mem_of_getElem? (i := 200) (by decide +kernel))) rfl, tvgc (tvc_6 (List.mem_of_getElem? (i := 201) (by decide +kernel))) rfl⟩
theorem yk_X4_kindOf : tvYk yX4_kindOf cX4_kindOf 2 (some .char) 1 := ⟨tvgc (tvc_2 (List.mem_of_getElem? (i := 1) (by decide +kernel))) rfl, tvgc (tvc_1 (List.mem_of_getElem? (i := 6) (by decide +kernel))) rfl, by decide +kernel, by decide +kernel, plainFor_of_name (by decide +kernel)⟩
theorem yi_X4_kindOf : tvYi yX4_kindOf := ⟨tvgc (tvc_1 (List.mem_of_getElem? (i := 239) (by decide +kernel))) rfl, tvgc (tvc_2 (List.mem_of_getElem? (i := 0) (by decide +kernel))) rfl⟩
theorem yk_X4_numberOf : tvYk yX4_numberOf cX4_numberOf 2 (some .int) 1 := ⟨tvgc (tvc_2 (List.mem_of_getElem? (i := 10) (by decide +kernel))) rfl, tvgc (tvc_1 (List.mem_of_getElem? (i := 6) (by decide +kernel))) rfl, by decide +kernel, by decide +kernel, plainFor_of_name (by decide +kernel)⟩
theorem yi_X4_numberOf : tvYi yX4_numberOf := ⟨tvgc (tvc_2 (List.mem_of_getElem? (i := 8) (by decide +kernel))) rfl, tvgc (tvc_2 (List.mem_of_getElem? (i := 9) (by decide +kernel))) rfl⟩
theorem yk_X4_slotOf : tvYk yX4_slotOf cX4_slotOf 3 (some .int) 1 := ⟨tvgc (tvc_2 (List.mem_of_getElem? (i := 6) (by decide +kernel))) rfl, tvgc (tvc_1 (List.mem_of_getElem? (i := 6) (by decide +kernel))) rfl, by decide +kernel, by decide +kernel, plainFor_of_name (by decide +kernel)⟩
theorem yi_X4_slotOf : tvYi yX4_slotOf := ⟨tvgc (tvc_2 (List.mem_of_getElem? (i := 4) (by decide +kernel))) rfl, tvg 4 (by decide +kernel) rfl⟩
theorem yk_X4_timeOf : tvYk yX4_timeOf cX4_timeOf 2 (some .int) 1 := ⟨tvgc (tvc_6 (List.mem_of_getElem? (i := 210) (by decide +kernel))) rfl, tvgc (tvc_1 (List.mem_of_getElem? (i := 6) (by decide +kernel))) rfl, by decide +kernel, by decide +kernel, plainFor_of_name (by decide +kernel)⟩
theorem yi_X4_timeOf : tvYi yX4_timeOf := ⟨tvgc (tvc_6 (List.mem_of_getElem? (i := 208) (by decide +kernel))) rfl, tvgc (tvc_6 (List.mem_of_getElem? (i := 209) (by decide +kernel))) rfl⟩
theorem yk_X7_become : tvYk yX7_become cX7_become 4 (some .int) 2 := ⟨tvgc (tvc_2 (List.mem_of_getElem? (i := 95) (by decide +kernel))) rfl, tvgc (tvc_1 (List.mem_of_getElem? (i := 3) (by decide +kernel))) rfl, by decide +kernel, by decide +kernel, plainFor_of_name (by decide +kernel)⟩
theorem yi_X7_become : tvYi yX7_become := ⟨tvgc (tvc_2 (List.mem_of_getElem? (i := 93) (by decide +kernel))) rfl, tvgc (tvc_2 (List.mem_of_getElem? (i := 94) (by decide +kernel))) rfl⟩
theorem yk_X7_copyFrom : tvYk yX7_copyFrom cX7_copyFrom 2 none 1 := ⟨tvgc (tvc_2 (List.mem_of_getElem? (i := 22) (by decide +kernel))) rfl, tvgc (tvc_1 (List.mem_of_getElem? (i := 3) (by decide +kernel))) rfl, by decide +kernel, by decide +kernel, plainFor_of_name (by decide +kernel)⟩
theorem yi_X7_copyFrom : tvYi yX7_copyFrom := ⟨tvgc (tvc_2 (List.mem_of_getElem? (i := 20) (by decide +kernel))) rfl, tvgc (tvc_2 (List.mem_of_getElem? (i := 21) (by decide +kernel))) rfl⟩
theorem yk_X7_isLowAt : tvYk yX7_isLowAt cX7_isLowAt 2 (some .boolean) 1 := ⟨tvgc (tvc_2 (List.mem_of_getElem? (i := 169) (by decide +kernel))) rfl, tvgc (tvc_1 (List.mem_of_getElem? (i := 3) (by decide +kernel))) rfl, by decide +kernel, by decide +kernel, plainFor_of_name (by decide +kernel)⟩
theorem yi_X7_isLowAt : tvYi yX7_isLowAt := ⟨tvgc (tvc_2 (List.mem_of_getElem? (i := 167) (by decide +kernel))) rfl, tvgc (tvc_2 (List.mem_of_getElem? (i := 168) (by decide +kernel))) rfl⟩
theorem yk_X7_lowBefore : tvYk yX7_lowBefore cX7_lowBefore 2 (some .int) 1 := ⟨tvgc (tvc_1 (List.mem_of_getElem? (i := 188) (by decide +kernel))) rfl, tvgc (tvc_1 (List.mem_of_getElem? (i := 3) (by decide +kernel))) rfl, by decide +kernel, by decide +kernel, plainFor_of_name (by decide +kernel)⟩
theorem yi_X7_lowBefore : tvYi yX7_lowBefore := ⟨tvgc (tvc_1 (List.mem_of_getElem? (i := 186) (by decide +kernel))) rfl, tvg 2 (by decide +kernel) rfl⟩
theorem yk_X7_lowByCounting : tvYk yX7_lowByCounting cX7_lowByCounting 5 (some .int) 2 := ⟨tvgc (tvc_7 (List.mem_of_getElem? (i := 34) (by decide +kernel))) rfl, tvgc (tvc_1 (List.mem_of_getElem? (i := 3) (by decide +kernel))) rfl, by decide +kernel, by decide +kernel, plainFor_of_name (by decide +kernel)⟩
theorem yi_X7_lowByCounting : tvYi yX7_lowByCounting := ⟨tvgc (tvc_7 (List.mem_of_getElem? (i := 32) (by decide +kernel))) rfl, tvgc (tvc_7 (List.mem_of_getElem? (i := 33) (by decide +kernel))) rfl⟩
theorem yk_X7_lowByFormula : tvYk yX7_lowByFormula cX7_lowByFormula 3 (some .int) 2 := ⟨tvgc (tvc_1 (List.mem_of_getElem? (i := 183) (by decide +kernel))) rfl, tvgc (tvc_1 (List.mem_of_getElem? (i := 3) (by decide +kernel))) rfl, by decide +kernel, by decide +kernel, plainFor_of_name (by decide +kernel)⟩
theorem yi_X7_lowByFormula : tvYi yX7_lowByFormula := ⟨tvgc (tvc_1 (List.mem_of_getElem? (i := 181) (by decide +kernel))) rfl, tvgc (tvc_1 (List.mem_of_getElem? (i := 182) (by decide +kernel))) rfl⟩
theorem yk_X8_refuse : tvYk yX8_refuse cX8_refuse 1 none 1 := ⟨tvgc (tvc_1 (List.mem_of_getElem? (i := 42) (by decide +kernel))) rfl, tvgc (tvc_1 (List.mem_of_getElem? (i := 1) (by decide +kernel))) rfl, by decide +kernel, by decide +kernel, plainFor_of_name (by decide +kernel)⟩
theorem yi_X8_refuse : Cond.static yX8_refuse ∈ tvGW := tvgc (tvc_1 (List.mem_of_getElem? (i := 41) (by decide +kernel))) rfl
def dl_J9_floorMod_7cf53 : List (Nat × Instr × Nat) := [(0, .iload_n 0, 1), (1, .iload_n 1, 1), (2, .irem, 1), (3, .istore_n 2, 1), (4, .iload_n 0, 1), (5, .iload_n 1, 1), (6, .ixor, 1), (7, .ifCond .ge 11, 3), (10, .iload_n 2, 1), (11, .ifCond .eq 7, 3), (14, .iload_n 2, 1), (15, .iload_n 1, 1), (16, .iadd, 1), (17, .ireturn, 1), (18, .iload_n 2, 1), (19, .ireturn, 1)]
theorem dlk_J9_floorMod_7cf53 : tvDl cJ9_floorMod_7cf53 dl_J9_floorMod_7cf53 = true := by decide +kernel
theorem dk_J9_floorMod_7cf53_0 : tvD cJ9_floorMod_7cf53 0 (.iload_n 0) 1 1 := tvDl_get dlk_J9_floorMod_7cf53 0 rfl rfl
theorem dk_J9_floorMod_7cf53_1 : tvD cJ9_floorMod_7cf53 1 (.iload_n 1) 1 2 := tvDl_get dlk_J9_floorMod_7cf53 1 rfl rfl
theorem dk_J9_floorMod_7cf53_2 : tvD cJ9_floorMod_7cf53 2 (.irem) 1 3 := tvDl_get dlk_J9_floorMod_7cf53 2 rfl rfl
theorem dk_J9_floorMod_7cf53_3 : tvD cJ9_floorMod_7cf53 3 (.istore_n 2) 1 4 := tvDl_get dlk_J9_floorMod_7cf53 3 rfl rfl
theorem dk_J9_floorMod_7cf53_4 : tvD cJ9_floorMod_7cf53 4 (.iload_n 0) 1 5 := tvDl_get dlk_J9_floorMod_7cf53 4 rfl rfl
theorem dk_J9_floorMod_7cf53_5 : tvD cJ9_floorMod_7cf53 5 (.iload_n 1) 1 6 := tvDl_get dlk_J9_floorMod_7cf53 5 rfl rfl
theorem dk_J9_floorMod_7cf53_6 : tvD cJ9_floorMod_7cf53 6 (.ixor) 1 7 := tvDl_get dlk_J9_floorMod_7cf53 6 rfl rfl
theorem dk_J9_floorMod_7cf53_7 : tvJ cJ9_floorMod_7cf53 7 (.ifCond .ge) 18 10 := tvJl_get dlk_J9_floorMod_7cf53 7 rfl (by decide) rfl
theorem dk_J9_floorMod_7cf53_10 : tvD cJ9_floorMod_7cf53 10 (.iload_n 2) 1 11 := tvDl_get dlk_J9_floorMod_7cf53 8 rfl rfl
theorem dk_J9_floorMod_7cf53_11 : tvJ cJ9_floorMod_7cf53 11 (.ifCond .eq) 18 14 := tvJl_get dlk_J9_floorMod_7cf53 9 rfl (by decide) rfl
theorem dk_J9_floorMod_7cf53_14 : tvD cJ9_floorMod_7cf53 14 (.iload_n 2) 1 15 := tvDl_get dlk_J9_floorMod_7cf53 10 rfl rfl
theorem dk_J9_floorMod_7cf53_15 : tvD cJ9_floorMod_7cf53 15 (.iload_n 1) 1 16 := tvDl_get dlk_J9_floorMod_7cf53 11 rfl rfl
theorem dk_J9_floorMod_7cf53_16 : tvD cJ9_floorMod_7cf53 16 (.iadd) 1 17 := tvDl_get dlk_J9_floorMod_7cf53 12 rfl rfl
theorem dk_J9_floorMod_7cf53_17 : tvD cJ9_floorMod_7cf53 17 (.ireturn) 1 18 := tvDl_get dlk_J9_floorMod_7cf53 13 rfl rfl
theorem dk_J9_floorMod_7cf53_18 : tvD cJ9_floorMod_7cf53 18 (.iload_n 2) 1 19 := tvDl_get dlk_J9_floorMod_7cf53 14 rfl rfl
theorem dk_J9_floorMod_7cf53_19 : tvD cJ9_floorMod_7cf53 19 (.ireturn) 1 20 := tvDl_get dlk_J9_floorMod_7cf53 15 rfl rfl
def dl_J9_max_7cf53 : List (Nat × Instr × Nat) := [(0, .iload_n 0, 1), (1, .iload_n 1, 1), (2, .if_icmp .lt 7, 3), (5, .iload_n 0, 1), (6, .goto 4, 3), (9, .iload_n 1, 1), (10, .ireturn, 1)]
theorem dlk_J9_max_7cf53 : tvDl cJ9_max_7cf53 dl_J9_max_7cf53 = true := by decide +kernel
theorem dk_J9_max_7cf53_0 : tvD cJ9_max_7cf53 0 (.iload_n 0) 1 1 := tvDl_get dlk_J9_max_7cf53 0 rfl rfl
theorem dk_J9_max_7cf53_1 : tvD cJ9_max_7cf53 1 (.iload_n 1) 1 2 := tvDl_get dlk_J9_max_7cf53 1 rfl rfl
theorem dk_J9_max_7cf53_2 : tvJ cJ9_max_7cf53 2 (.if_icmp .lt) 9 5 := tvJl_get dlk_J9_max_7cf53 2 rfl (by decide) rfl
theorem dk_J9_max_7cf53_5 : tvD cJ9_max_7cf53 5 (.iload_n 0) 1 6 := tvDl_get dlk_J9_max_7cf53 3 rfl rfl
theorem dk_J9_max_7cf53_6 : tvJ cJ9_max_7cf53 6 .goto 10 9 := tvJl_get dlk_J9_max_7cf53 4 rfl (by decide) rfl
theorem dk_J9_max_7cf53_9 : tvD cJ9_max_7cf53 9 (.iload_n 1) 1 10 := tvDl_get dlk_J9_max_7cf53 5 rfl rfl
theorem dk_J9_max_7cf53_10 : tvD cJ9_max_7cf53 10 (.ireturn) 1 11 := tvDl_get dlk_J9_max_7cf53 6 rfl rfl
def dl_J9_min_7cf53 : List (Nat × Instr × Nat) := [(0, .iload_n 0, 1), (1, .iload_n 1, 1), (2, .if_icmp .gt 7, 3), (5, .iload_n 0, 1), (6, .goto 4, 3), (9, .iload_n 1, 1), (10, .ireturn, 1)]
theorem dlk_J9_min_7cf53 : tvDl cJ9_min_7cf53 dl_J9_min_7cf53 = true := by decide +kernel
theorem dk_J9_min_7cf53_0 : tvD cJ9_min_7cf53 0 (.iload_n 0) 1 1 := tvDl_get dlk_J9_min_7cf53 0 rfl rfl
theorem dk_J9_min_7cf53_1 : tvD cJ9_min_7cf53 1 (.iload_n 1) 1 2 := tvDl_get dlk_J9_min_7cf53 1 rfl rfl
theorem dk_J9_min_7cf53_2 : tvJ cJ9_min_7cf53 2 (.if_icmp .gt) 9 5 := tvJl_get dlk_J9_min_7cf53 2 rfl (by decide) rfl
theorem dk_J9_min_7cf53_5 : tvD cJ9_min_7cf53 5 (.iload_n 0) 1 6 := tvDl_get dlk_J9_min_7cf53 3 rfl rfl
theorem dk_J9_min_7cf53_6 : tvJ cJ9_min_7cf53 6 .goto 10 9 := tvJl_get dlk_J9_min_7cf53 4 rfl (by decide) rfl
theorem dk_J9_min_7cf53_9 : tvD cJ9_min_7cf53 9 (.iload_n 1) 1 10 := tvDl_get dlk_J9_min_7cf53 5 rfl rfl
theorem dk_J9_min_7cf53_10 : tvD cJ9_min_7cf53 10 (.ireturn) 1 11 := tvDl_get dlk_J9_min_7cf53 6 rfl rfl
def dl_X0_add : List (Nat × Instr × Nat) := [(0, .aload_n 0, 1), (1, .getfield 40, 3), (4, .istore 4, 2), (6, .iload 4, 2), (8, .ifCond .lt 10, 3), (11, .iload 4, 2), (13, .bipush 10, 2), (15, .if_icmp .lt 5, 3), (18, .iconst (-1), 1), (19, .ireturn, 1), (20, .aload_n 0, 1), (21, .getfield 9, 3), (24, .iload 4, 2), (26, .iload_n 1, 1), (27, .iastore, 1), (28, .aload_n 0, 1), (29, .getfield 15, 3), (32, .iload 4, 2), (34, .iload_n 2, 1), (35, .iastore, 1), (36, .aload_n 0, 1), (37, .getfield 18, 3), (40, .iload 4, 2), (42, .iload_n 3, 1), (43, .iastore, 1), (44, .aload_n 0, 1), (45, .getfield 21, 3), (48, .iload 4, 2), (50, .bipush 99, 2), (52, .castore, 1), (53, .aload_n 0, 1), (54, .getfield 25, 3), (57, .iload 4, 2), (59, .iconst (-1), 1), (60, .iastore, 1), (61, .aload_n 0, 1), (62, .getfield 28, 3), (65, .iload 4, 2), (67, .iconst 0, 1), (68, .iastore, 1), (69, .aload_n 0, 1), (70, .getfield 31, 3), (73, .iload 4, 2), (75, .iconst 0, 1), (76, .iastore, 1), (77, .aload_n 0, 1), (78, .getfield 34, 3), (81, .iload 4, 2), (83, .iconst 0, 1), (84, .iastore, 1), (85, .aload_n 0, 1), (86, .dup, 1), (87, .getfield 40, 3), (90, .iconst 1, 1), (91, .iadd, 1), (92, .putfield 40, 3), (95, .iload 4, 2), (97, .ireturn, 1)]
theorem dlk_X0_add : tvDl cX0_add dl_X0_add = true := by decide +kernel
theorem dk_X0_add_0 : tvD cX0_add 0 (.aload_n 0) 1 1 := tvDl_get dlk_X0_add 0 rfl rfl
theorem dk_X0_add_1 : tvD cX0_add 1 (.getfield 40) 3 4 := tvDl_get dlk_X0_add 1 rfl rfl
theorem dk_X0_add_4 : tvD cX0_add 4 (.istore 4) 2 6 := tvDl_get dlk_X0_add 2 rfl rfl
theorem dk_X0_add_6 : tvD cX0_add 6 (.iload 4) 2 8 := tvDl_get dlk_X0_add 3 rfl rfl
theorem dk_X0_add_8 : tvJ cX0_add 8 (.ifCond .lt) 18 11 := tvJl_get dlk_X0_add 4 rfl (by decide) rfl
theorem dk_X0_add_11 : tvD cX0_add 11 (.iload 4) 2 13 := tvDl_get dlk_X0_add 5 rfl rfl
theorem dk_X0_add_13 : tvD cX0_add 13 (.bipush 10) 2 15 := tvDl_get dlk_X0_add 6 rfl rfl
theorem dk_X0_add_15 : tvJ cX0_add 15 (.if_icmp .lt) 20 18 := tvJl_get dlk_X0_add 7 rfl (by decide) rfl
theorem dk_X0_add_18 : tvD cX0_add 18 (.iconst (-1)) 1 19 := tvDl_get dlk_X0_add 8 rfl rfl
theorem dk_X0_add_19 : tvD cX0_add 19 (.ireturn) 1 20 := tvDl_get dlk_X0_add 9 rfl rfl
theorem dk_X0_add_20 : tvD cX0_add 20 (.aload_n 0) 1 21 := tvDl_get dlk_X0_add 10 rfl rfl
theorem dk_X0_add_21 : tvD cX0_add 21 (.getfield 9) 3 24 := tvDl_get dlk_X0_add 11 rfl rfl
theorem dk_X0_add_24 : tvD cX0_add 24 (.iload 4) 2 26 := tvDl_get dlk_X0_add 12 rfl rfl
theorem dk_X0_add_26 : tvD cX0_add 26 (.iload_n 1) 1 27 := tvDl_get dlk_X0_add 13 rfl rfl
theorem dk_X0_add_27 : tvD cX0_add 27 (.iastore) 1 28 := tvDl_get dlk_X0_add 14 rfl rfl
theorem dk_X0_add_28 : tvD cX0_add 28 (.aload_n 0) 1 29 := tvDl_get dlk_X0_add 15 rfl rfl
theorem dk_X0_add_29 : tvD cX0_add 29 (.getfield 15) 3 32 := tvDl_get dlk_X0_add 16 rfl rfl
theorem dk_X0_add_32 : tvD cX0_add 32 (.iload 4) 2 34 := tvDl_get dlk_X0_add 17 rfl rfl
theorem dk_X0_add_34 : tvD cX0_add 34 (.iload_n 2) 1 35 := tvDl_get dlk_X0_add 18 rfl rfl
theorem dk_X0_add_35 : tvD cX0_add 35 (.iastore) 1 36 := tvDl_get dlk_X0_add 19 rfl rfl
theorem dk_X0_add_36 : tvD cX0_add 36 (.aload_n 0) 1 37 := tvDl_get dlk_X0_add 20 rfl rfl
theorem dk_X0_add_37 : tvD cX0_add 37 (.getfield 18) 3 40 := tvDl_get dlk_X0_add 21 rfl rfl
theorem dk_X0_add_40 : tvD cX0_add 40 (.iload 4) 2 42 := tvDl_get dlk_X0_add 22 rfl rfl
theorem dk_X0_add_42 : tvD cX0_add 42 (.iload_n 3) 1 43 := tvDl_get dlk_X0_add 23 rfl rfl
theorem dk_X0_add_43 : tvD cX0_add 43 (.iastore) 1 44 := tvDl_get dlk_X0_add 24 rfl rfl
theorem dk_X0_add_44 : tvD cX0_add 44 (.aload_n 0) 1 45 := tvDl_get dlk_X0_add 25 rfl rfl
theorem dk_X0_add_45 : tvD cX0_add 45 (.getfield 21) 3 48 := tvDl_get dlk_X0_add 26 rfl rfl
theorem dk_X0_add_48 : tvD cX0_add 48 (.iload 4) 2 50 := tvDl_get dlk_X0_add 27 rfl rfl
theorem dk_X0_add_50 : tvD cX0_add 50 (.bipush 99) 2 52 := tvDl_get dlk_X0_add 28 rfl rfl
theorem dk_X0_add_52 : tvD cX0_add 52 (.castore) 1 53 := tvDl_get dlk_X0_add 29 rfl rfl
theorem dk_X0_add_53 : tvD cX0_add 53 (.aload_n 0) 1 54 := tvDl_get dlk_X0_add 30 rfl rfl
theorem dk_X0_add_54 : tvD cX0_add 54 (.getfield 25) 3 57 := tvDl_get dlk_X0_add 31 rfl rfl
theorem dk_X0_add_57 : tvD cX0_add 57 (.iload 4) 2 59 := tvDl_get dlk_X0_add 32 rfl rfl
theorem dk_X0_add_59 : tvD cX0_add 59 (.iconst (-1)) 1 60 := tvDl_get dlk_X0_add 33 rfl rfl
theorem dk_X0_add_60 : tvD cX0_add 60 (.iastore) 1 61 := tvDl_get dlk_X0_add 34 rfl rfl
theorem dk_X0_add_61 : tvD cX0_add 61 (.aload_n 0) 1 62 := tvDl_get dlk_X0_add 35 rfl rfl
theorem dk_X0_add_62 : tvD cX0_add 62 (.getfield 28) 3 65 := tvDl_get dlk_X0_add 36 rfl rfl
theorem dk_X0_add_65 : tvD cX0_add 65 (.iload 4) 2 67 := tvDl_get dlk_X0_add 37 rfl rfl
theorem dk_X0_add_67 : tvD cX0_add 67 (.iconst 0) 1 68 := tvDl_get dlk_X0_add 38 rfl rfl
theorem dk_X0_add_68 : tvD cX0_add 68 (.iastore) 1 69 := tvDl_get dlk_X0_add 39 rfl rfl
theorem dk_X0_add_69 : tvD cX0_add 69 (.aload_n 0) 1 70 := tvDl_get dlk_X0_add 40 rfl rfl
theorem dk_X0_add_70 : tvD cX0_add 70 (.getfield 31) 3 73 := tvDl_get dlk_X0_add 41 rfl rfl
theorem dk_X0_add_73 : tvD cX0_add 73 (.iload 4) 2 75 := tvDl_get dlk_X0_add 42 rfl rfl
theorem dk_X0_add_75 : tvD cX0_add 75 (.iconst 0) 1 76 := tvDl_get dlk_X0_add 43 rfl rfl
theorem dk_X0_add_76 : tvD cX0_add 76 (.iastore) 1 77 := tvDl_get dlk_X0_add 44 rfl rfl
theorem dk_X0_add_77 : tvD cX0_add 77 (.aload_n 0) 1 78 := tvDl_get dlk_X0_add 45 rfl rfl
theorem dk_X0_add_78 : tvD cX0_add 78 (.getfield 34) 3 81 := tvDl_get dlk_X0_add 46 rfl rfl
theorem dk_X0_add_81 : tvD cX0_add 81 (.iload 4) 2 83 := tvDl_get dlk_X0_add 47 rfl rfl
theorem dk_X0_add_83 : tvD cX0_add 83 (.iconst 0) 1 84 := tvDl_get dlk_X0_add 48 rfl rfl
theorem dk_X0_add_84 : tvD cX0_add 84 (.iastore) 1 85 := tvDl_get dlk_X0_add 49 rfl rfl
theorem dk_X0_add_85 : tvD cX0_add 85 (.aload_n 0) 1 86 := tvDl_get dlk_X0_add 50 rfl rfl
theorem dk_X0_add_86 : tvD cX0_add 86 (.dup) 1 87 := tvDl_get dlk_X0_add 51 rfl rfl
theorem dk_X0_add_87 : tvD cX0_add 87 (.getfield 40) 3 90 := tvDl_get dlk_X0_add 52 rfl rfl
theorem dk_X0_add_90 : tvD cX0_add 90 (.iconst 1) 1 91 := tvDl_get dlk_X0_add 53 rfl rfl
theorem dk_X0_add_91 : tvD cX0_add 91 (.iadd) 1 92 := tvDl_get dlk_X0_add 54 rfl rfl
theorem dk_X0_add_92 : tvD cX0_add 92 (.putfield 40) 3 95 := tvDl_get dlk_X0_add 55 rfl rfl
theorem dk_X0_add_95 : tvD cX0_add 95 (.iload 4) 2 97 := tvDl_get dlk_X0_add 56 rfl rfl
theorem dk_X0_add_97 : tvD cX0_add 97 (.ireturn) 1 98 := tvDl_get dlk_X0_add 57 rfl rfl
def dl_X0_addPearl : List (Nat × Instr × Nat) := [(0, .aload_n 0, 1), (1, .iload_n 1, 1), (2, .invokevirtual 73, 3), (5, .istore_n 3, 1), (6, .aload_n 0, 1), (7, .iload_n 1, 1), (8, .iload_n 3, 1), (9, .iload_n 2, 1), (10, .invokevirtual 76, 3), (13, .aload_n 0, 1), (14, .iload_n 1, 1), (15, .iload_n 3, 1), (16, .iconst 1, 1), (17, .iadd, 1), (18, .invokevirtual 80, 3), (21, .ireturn, 1)]
theorem dlk_X0_addPearl : tvDl cX0_addPearl dl_X0_addPearl = true := by decide +kernel
theorem dk_X0_addPearl_0 : tvD cX0_addPearl 0 (.aload_n 0) 1 1 := tvDl_get dlk_X0_addPearl 0 rfl rfl
theorem dk_X0_addPearl_1 : tvD cX0_addPearl 1 (.iload_n 1) 1 2 := tvDl_get dlk_X0_addPearl 1 rfl rfl
theorem dk_X0_addPearl_2 : tvD cX0_addPearl 2 (.invokevirtual 73) 3 5 := tvDl_get dlk_X0_addPearl 2 rfl rfl
theorem dk_X0_addPearl_5 : tvD cX0_addPearl 5 (.istore_n 3) 1 6 := tvDl_get dlk_X0_addPearl 3 rfl rfl
theorem dk_X0_addPearl_6 : tvD cX0_addPearl 6 (.aload_n 0) 1 7 := tvDl_get dlk_X0_addPearl 4 rfl rfl
theorem dk_X0_addPearl_7 : tvD cX0_addPearl 7 (.iload_n 1) 1 8 := tvDl_get dlk_X0_addPearl 5 rfl rfl
theorem dk_X0_addPearl_8 : tvD cX0_addPearl 8 (.iload_n 3) 1 9 := tvDl_get dlk_X0_addPearl 6 rfl rfl
theorem dk_X0_addPearl_9 : tvD cX0_addPearl 9 (.iload_n 2) 1 10 := tvDl_get dlk_X0_addPearl 7 rfl rfl
theorem dk_X0_addPearl_10 : tvD cX0_addPearl 10 (.invokevirtual 76) 3 13 := tvDl_get dlk_X0_addPearl 8 rfl rfl
theorem dk_X0_addPearl_13 : tvD cX0_addPearl 13 (.aload_n 0) 1 14 := tvDl_get dlk_X0_addPearl 9 rfl rfl
theorem dk_X0_addPearl_14 : tvD cX0_addPearl 14 (.iload_n 1) 1 15 := tvDl_get dlk_X0_addPearl 10 rfl rfl
theorem dk_X0_addPearl_15 : tvD cX0_addPearl 15 (.iload_n 3) 1 16 := tvDl_get dlk_X0_addPearl 11 rfl rfl
theorem dk_X0_addPearl_16 : tvD cX0_addPearl 16 (.iconst 1) 1 17 := tvDl_get dlk_X0_addPearl 12 rfl rfl
theorem dk_X0_addPearl_17 : tvD cX0_addPearl 17 (.iadd) 1 18 := tvDl_get dlk_X0_addPearl 13 rfl rfl
theorem dk_X0_addPearl_18 : tvD cX0_addPearl 18 (.invokevirtual 80) 3 21 := tvDl_get dlk_X0_addPearl 14 rfl rfl
theorem dk_X0_addPearl_21 : tvD cX0_addPearl 21 (.ireturn) 1 22 := tvDl_get dlk_X0_addPearl 15 rfl rfl
def dl_X0_awaits : List (Nat × Instr × Nat) := [(0, .aload_n 0, 1), (1, .iload_n 1, 1), (2, .invokevirtual 58, 3), (5, .istore_n 3, 1), (6, .iload_n 3, 1), (7, .bipush 99, 2), (9, .if_icmp .eq 18, 3), (12, .iload_n 3, 1), (13, .bipush 104, 2), (15, .if_icmp .ne 16, 3), (18, .aload_n 0, 1), (19, .iload_n 1, 1), (20, .invokevirtual 62, 3), (23, .iload_n 2, 1), (24, .if_icmp .eq 7, 3), (27, .iconst 1, 1), (28, .goto 4, 3), (31, .iconst 0, 1), (32, .ireturn, 1)]
theorem dlk_X0_awaits : tvDl cX0_awaits dl_X0_awaits = true := by decide +kernel
theorem dk_X0_awaits_0 : tvD cX0_awaits 0 (.aload_n 0) 1 1 := tvDl_get dlk_X0_awaits 0 rfl rfl
theorem dk_X0_awaits_1 : tvD cX0_awaits 1 (.iload_n 1) 1 2 := tvDl_get dlk_X0_awaits 1 rfl rfl
theorem dk_X0_awaits_2 : tvD cX0_awaits 2 (.invokevirtual 58) 3 5 := tvDl_get dlk_X0_awaits 2 rfl rfl
theorem dk_X0_awaits_5 : tvD cX0_awaits 5 (.istore_n 3) 1 6 := tvDl_get dlk_X0_awaits 3 rfl rfl
theorem dk_X0_awaits_6 : tvD cX0_awaits 6 (.iload_n 3) 1 7 := tvDl_get dlk_X0_awaits 4 rfl rfl
theorem dk_X0_awaits_7 : tvD cX0_awaits 7 (.bipush 99) 2 9 := tvDl_get dlk_X0_awaits 5 rfl rfl
theorem dk_X0_awaits_9 : tvJ cX0_awaits 9 (.if_icmp .eq) 27 12 := tvJl_get dlk_X0_awaits 6 rfl (by decide) rfl
theorem dk_X0_awaits_12 : tvD cX0_awaits 12 (.iload_n 3) 1 13 := tvDl_get dlk_X0_awaits 7 rfl rfl
theorem dk_X0_awaits_13 : tvD cX0_awaits 13 (.bipush 104) 2 15 := tvDl_get dlk_X0_awaits 8 rfl rfl
theorem dk_X0_awaits_15 : tvJ cX0_awaits 15 (.if_icmp .ne) 31 18 := tvJl_get dlk_X0_awaits 9 rfl (by decide) rfl
theorem dk_X0_awaits_18 : tvD cX0_awaits 18 (.aload_n 0) 1 19 := tvDl_get dlk_X0_awaits 10 rfl rfl
theorem dk_X0_awaits_19 : tvD cX0_awaits 19 (.iload_n 1) 1 20 := tvDl_get dlk_X0_awaits 11 rfl rfl
theorem dk_X0_awaits_20 : tvD cX0_awaits 20 (.invokevirtual 62) 3 23 := tvDl_get dlk_X0_awaits 12 rfl rfl
theorem dk_X0_awaits_23 : tvD cX0_awaits 23 (.iload_n 2) 1 24 := tvDl_get dlk_X0_awaits 13 rfl rfl
theorem dk_X0_awaits_24 : tvJ cX0_awaits 24 (.if_icmp .eq) 31 27 := tvJl_get dlk_X0_awaits 14 rfl (by decide) rfl
theorem dk_X0_awaits_27 : tvD cX0_awaits 27 (.iconst 1) 1 28 := tvDl_get dlk_X0_awaits 15 rfl rfl
theorem dk_X0_awaits_28 : tvJ cX0_awaits 28 .goto 32 31 := tvJl_get dlk_X0_awaits 16 rfl (by decide) rfl
theorem dk_X0_awaits_31 : tvD cX0_awaits 31 (.iconst 0) 1 32 := tvDl_get dlk_X0_awaits 17 rfl rfl
theorem dk_X0_awaits_32 : tvD cX0_awaits 32 (.ireturn) 1 33 := tvDl_get dlk_X0_awaits 18 rfl rfl
def dl_X0_become : List (Nat × Instr × Nat) := [(0, .aload_n 0, 1), (1, .iload_n 2, 1), (2, .invokevirtual 50, 3), (5, .ifCond .eq 17, 3), (8, .aload_n 0, 1), (9, .getfield 21, 3), (12, .iload_n 2, 1), (13, .iload_n 1, 1), (14, .castore, 1), (15, .aload_n 0, 1), (16, .getfield 31, 3), (19, .iload_n 2, 1), (20, .iload_n 3, 1), (21, .iastore, 1), (22, .return_, 1)]
theorem dlk_X0_become : tvDl cX0_become dl_X0_become = true := by decide +kernel
theorem dk_X0_become_0 : tvD cX0_become 0 (.aload_n 0) 1 1 := tvDl_get dlk_X0_become 0 rfl rfl
theorem dk_X0_become_1 : tvD cX0_become 1 (.iload_n 2) 1 2 := tvDl_get dlk_X0_become 1 rfl rfl
theorem dk_X0_become_2 : tvD cX0_become 2 (.invokevirtual 50) 3 5 := tvDl_get dlk_X0_become 2 rfl rfl
theorem dk_X0_become_5 : tvJ cX0_become 5 (.ifCond .eq) 22 8 := tvJl_get dlk_X0_become 3 rfl (by decide) rfl
theorem dk_X0_become_8 : tvD cX0_become 8 (.aload_n 0) 1 9 := tvDl_get dlk_X0_become 4 rfl rfl
theorem dk_X0_become_9 : tvD cX0_become 9 (.getfield 21) 3 12 := tvDl_get dlk_X0_become 5 rfl rfl
theorem dk_X0_become_12 : tvD cX0_become 12 (.iload_n 2) 1 13 := tvDl_get dlk_X0_become 6 rfl rfl
theorem dk_X0_become_13 : tvD cX0_become 13 (.iload_n 1) 1 14 := tvDl_get dlk_X0_become 7 rfl rfl
theorem dk_X0_become_14 : tvD cX0_become 14 (.castore) 1 15 := tvDl_get dlk_X0_become 8 rfl rfl
theorem dk_X0_become_15 : tvD cX0_become 15 (.aload_n 0) 1 16 := tvDl_get dlk_X0_become 9 rfl rfl
theorem dk_X0_become_16 : tvD cX0_become 16 (.getfield 31) 3 19 := tvDl_get dlk_X0_become 10 rfl rfl
theorem dk_X0_become_19 : tvD cX0_become 19 (.iload_n 2) 1 20 := tvDl_get dlk_X0_become 11 rfl rfl
theorem dk_X0_become_20 : tvD cX0_become 20 (.iload_n 3) 1 21 := tvDl_get dlk_X0_become 12 rfl rfl
theorem dk_X0_become_21 : tvD cX0_become 21 (.iastore) 1 22 := tvDl_get dlk_X0_become 13 rfl rfl
theorem dk_X0_become_22 : tvD cX0_become 22 (.return_) 1 23 := tvDl_get dlk_X0_become 14 rfl rfl
def dl_X0_belongsTo : List (Nat × Instr × Nat) := [(0, .aload_n 0, 1), (1, .iload_n 1, 1), (2, .invokevirtual 50, 3), (5, .ifCond .eq 27, 3), (8, .aload_n 0, 1), (9, .getfield 9, 3), (12, .iload_n 1, 1), (13, .iaload, 1), (14, .iload_n 2, 1), (15, .if_icmp .eq 13, 3), (18, .aload_n 0, 1), (19, .getfield 15, 3), (22, .iload_n 1, 1), (23, .iaload, 1), (24, .iload_n 2, 1), (25, .if_icmp .ne 7, 3), (28, .iconst 1, 1), (29, .goto 4, 3), (32, .iconst 0, 1), (33, .ireturn, 1)]
theorem dlk_X0_belongsTo : tvDl cX0_belongsTo dl_X0_belongsTo = true := by decide +kernel
theorem dk_X0_belongsTo_0 : tvD cX0_belongsTo 0 (.aload_n 0) 1 1 := tvDl_get dlk_X0_belongsTo 0 rfl rfl
theorem dk_X0_belongsTo_1 : tvD cX0_belongsTo 1 (.iload_n 1) 1 2 := tvDl_get dlk_X0_belongsTo 1 rfl rfl
theorem dk_X0_belongsTo_2 : tvD cX0_belongsTo 2 (.invokevirtual 50) 3 5 := tvDl_get dlk_X0_belongsTo 2 rfl rfl
theorem dk_X0_belongsTo_5 : tvJ cX0_belongsTo 5 (.ifCond .eq) 32 8 := tvJl_get dlk_X0_belongsTo 3 rfl (by decide) rfl
theorem dk_X0_belongsTo_8 : tvD cX0_belongsTo 8 (.aload_n 0) 1 9 := tvDl_get dlk_X0_belongsTo 4 rfl rfl
theorem dk_X0_belongsTo_9 : tvD cX0_belongsTo 9 (.getfield 9) 3 12 := tvDl_get dlk_X0_belongsTo 5 rfl rfl
theorem dk_X0_belongsTo_12 : tvD cX0_belongsTo 12 (.iload_n 1) 1 13 := tvDl_get dlk_X0_belongsTo 6 rfl rfl
theorem dk_X0_belongsTo_13 : tvD cX0_belongsTo 13 (.iaload) 1 14 := tvDl_get dlk_X0_belongsTo 7 rfl rfl
theorem dk_X0_belongsTo_14 : tvD cX0_belongsTo 14 (.iload_n 2) 1 15 := tvDl_get dlk_X0_belongsTo 8 rfl rfl
theorem dk_X0_belongsTo_15 : tvJ cX0_belongsTo 15 (.if_icmp .eq) 28 18 := tvJl_get dlk_X0_belongsTo 9 rfl (by decide) rfl
theorem dk_X0_belongsTo_18 : tvD cX0_belongsTo 18 (.aload_n 0) 1 19 := tvDl_get dlk_X0_belongsTo 10 rfl rfl
theorem dk_X0_belongsTo_19 : tvD cX0_belongsTo 19 (.getfield 15) 3 22 := tvDl_get dlk_X0_belongsTo 11 rfl rfl
theorem dk_X0_belongsTo_22 : tvD cX0_belongsTo 22 (.iload_n 1) 1 23 := tvDl_get dlk_X0_belongsTo 12 rfl rfl
theorem dk_X0_belongsTo_23 : tvD cX0_belongsTo 23 (.iaload) 1 24 := tvDl_get dlk_X0_belongsTo 13 rfl rfl
theorem dk_X0_belongsTo_24 : tvD cX0_belongsTo 24 (.iload_n 2) 1 25 := tvDl_get dlk_X0_belongsTo 14 rfl rfl
theorem dk_X0_belongsTo_25 : tvJ cX0_belongsTo 25 (.if_icmp .ne) 32 28 := tvJl_get dlk_X0_belongsTo 15 rfl (by decide) rfl
theorem dk_X0_belongsTo_28 : tvD cX0_belongsTo 28 (.iconst 1) 1 29 := tvDl_get dlk_X0_belongsTo 16 rfl rfl
theorem dk_X0_belongsTo_29 : tvJ cX0_belongsTo 29 .goto 33 32 := tvJl_get dlk_X0_belongsTo 17 rfl (by decide) rfl
theorem dk_X0_belongsTo_32 : tvD cX0_belongsTo 32 (.iconst 0) 1 33 := tvDl_get dlk_X0_belongsTo 18 rfl rfl
theorem dk_X0_belongsTo_33 : tvD cX0_belongsTo 33 (.ireturn) 1 34 := tvDl_get dlk_X0_belongsTo 19 rfl rfl
def dl_X0_copyFrom : List (Nat × Instr × Nat) := [(0, .aload_n 0, 1), (1, .aload_n 1, 1), (2, .getfield 40, 3), (5, .putfield 40, 3), (8, .aload_n 1, 1), (9, .getfield 9, 3), (12, .iconst 0, 1), (13, .aload_n 0, 1), (14, .getfield 9, 3), (17, .iconst 0, 1), (18, .bipush 10, 2), (20, .invokestatic 44, 3), (23, .aload_n 1, 1), (24, .getfield 15, 3), (27, .iconst 0, 1), (28, .aload_n 0, 1), (29, .getfield 15, 3), (32, .iconst 0, 1), (33, .bipush 10, 2), (35, .invokestatic 44, 3), (38, .aload_n 1, 1), (39, .getfield 18, 3), (42, .iconst 0, 1), (43, .aload_n 0, 1), (44, .getfield 18, 3), (47, .iconst 0, 1), (48, .bipush 10, 2), (50, .invokestatic 44, 3), (53, .aload_n 1, 1), (54, .getfield 21, 3), (57, .iconst 0, 1), (58, .aload_n 0, 1), (59, .getfield 21, 3), (62, .iconst 0, 1), (63, .bipush 10, 2), (65, .invokestatic 44, 3), (68, .aload_n 1, 1), (69, .getfield 25, 3), (72, .iconst 0, 1), (73, .aload_n 0, 1), (74, .getfield 25, 3), (77, .iconst 0, 1), (78, .bipush 10, 2), (80, .invokestatic 44, 3), (83, .aload_n 1, 1), (84, .getfield 28, 3), (87, .iconst 0, 1), (88, .aload_n 0, 1), (89, .getfield 28, 3), (92, .iconst 0, 1), (93, .bipush 10, 2), (95, .invokestatic 44, 3), (98, .aload_n 1, 1), (99, .getfield 31, 3), (102, .iconst 0, 1), (103, .aload_n 0, 1), (104, .getfield 31, 3), (107, .iconst 0, 1), (108, .bipush 10, 2), (110, .invokestatic 44, 3)]
theorem dlk_X0_copyFrom : tvDl cX0_copyFrom dl_X0_copyFrom = true := by decide +kernel
theorem dk_X0_copyFrom_0 : tvD cX0_copyFrom 0 (.aload_n 0) 1 1 := tvDl_get dlk_X0_copyFrom 0 rfl rfl
theorem dk_X0_copyFrom_1 : tvD cX0_copyFrom 1 (.aload_n 1) 1 2 := tvDl_get dlk_X0_copyFrom 1 rfl rfl
theorem dk_X0_copyFrom_2 : tvD cX0_copyFrom 2 (.getfield 40) 3 5 := tvDl_get dlk_X0_copyFrom 2 rfl rfl
theorem dk_X0_copyFrom_5 : tvD cX0_copyFrom 5 (.putfield 40) 3 8 := tvDl_get dlk_X0_copyFrom 3 rfl rfl
theorem dk_X0_copyFrom_8 : tvD cX0_copyFrom 8 (.aload_n 1) 1 9 := tvDl_get dlk_X0_copyFrom 4 rfl rfl
theorem dk_X0_copyFrom_9 : tvD cX0_copyFrom 9 (.getfield 9) 3 12 := tvDl_get dlk_X0_copyFrom 5 rfl rfl
theorem dk_X0_copyFrom_12 : tvD cX0_copyFrom 12 (.iconst 0) 1 13 := tvDl_get dlk_X0_copyFrom 6 rfl rfl
theorem dk_X0_copyFrom_13 : tvD cX0_copyFrom 13 (.aload_n 0) 1 14 := tvDl_get dlk_X0_copyFrom 7 rfl rfl
theorem dk_X0_copyFrom_14 : tvD cX0_copyFrom 14 (.getfield 9) 3 17 := tvDl_get dlk_X0_copyFrom 8 rfl rfl
theorem dk_X0_copyFrom_17 : tvD cX0_copyFrom 17 (.iconst 0) 1 18 := tvDl_get dlk_X0_copyFrom 9 rfl rfl
theorem dk_X0_copyFrom_18 : tvD cX0_copyFrom 18 (.bipush 10) 2 20 := tvDl_get dlk_X0_copyFrom 10 rfl rfl
theorem dk_X0_copyFrom_20 : tvD cX0_copyFrom 20 (.invokestatic 44) 3 23 := tvDl_get dlk_X0_copyFrom 11 rfl rfl
theorem dk_X0_copyFrom_23 : tvD cX0_copyFrom 23 (.aload_n 1) 1 24 := tvDl_get dlk_X0_copyFrom 12 rfl rfl
theorem dk_X0_copyFrom_24 : tvD cX0_copyFrom 24 (.getfield 15) 3 27 := tvDl_get dlk_X0_copyFrom 13 rfl rfl
theorem dk_X0_copyFrom_27 : tvD cX0_copyFrom 27 (.iconst 0) 1 28 := tvDl_get dlk_X0_copyFrom 14 rfl rfl
theorem dk_X0_copyFrom_28 : tvD cX0_copyFrom 28 (.aload_n 0) 1 29 := tvDl_get dlk_X0_copyFrom 15 rfl rfl
theorem dk_X0_copyFrom_29 : tvD cX0_copyFrom 29 (.getfield 15) 3 32 := tvDl_get dlk_X0_copyFrom 16 rfl rfl
theorem dk_X0_copyFrom_32 : tvD cX0_copyFrom 32 (.iconst 0) 1 33 := tvDl_get dlk_X0_copyFrom 17 rfl rfl
theorem dk_X0_copyFrom_33 : tvD cX0_copyFrom 33 (.bipush 10) 2 35 := tvDl_get dlk_X0_copyFrom 18 rfl rfl
theorem dk_X0_copyFrom_35 : tvD cX0_copyFrom 35 (.invokestatic 44) 3 38 := tvDl_get dlk_X0_copyFrom 19 rfl rfl
theorem dk_X0_copyFrom_38 : tvD cX0_copyFrom 38 (.aload_n 1) 1 39 := tvDl_get dlk_X0_copyFrom 20 rfl rfl
theorem dk_X0_copyFrom_39 : tvD cX0_copyFrom 39 (.getfield 18) 3 42 := tvDl_get dlk_X0_copyFrom 21 rfl rfl
theorem dk_X0_copyFrom_42 : tvD cX0_copyFrom 42 (.iconst 0) 1 43 := tvDl_get dlk_X0_copyFrom 22 rfl rfl
theorem dk_X0_copyFrom_43 : tvD cX0_copyFrom 43 (.aload_n 0) 1 44 := tvDl_get dlk_X0_copyFrom 23 rfl rfl
theorem dk_X0_copyFrom_44 : tvD cX0_copyFrom 44 (.getfield 18) 3 47 := tvDl_get dlk_X0_copyFrom 24 rfl rfl
theorem dk_X0_copyFrom_47 : tvD cX0_copyFrom 47 (.iconst 0) 1 48 := tvDl_get dlk_X0_copyFrom 25 rfl rfl
theorem dk_X0_copyFrom_48 : tvD cX0_copyFrom 48 (.bipush 10) 2 50 := tvDl_get dlk_X0_copyFrom 26 rfl rfl
theorem dk_X0_copyFrom_50 : tvD cX0_copyFrom 50 (.invokestatic 44) 3 53 := tvDl_get dlk_X0_copyFrom 27 rfl rfl
theorem dk_X0_copyFrom_53 : tvD cX0_copyFrom 53 (.aload_n 1) 1 54 := tvDl_get dlk_X0_copyFrom 28 rfl rfl
theorem dk_X0_copyFrom_54 : tvD cX0_copyFrom 54 (.getfield 21) 3 57 := tvDl_get dlk_X0_copyFrom 29 rfl rfl
theorem dk_X0_copyFrom_57 : tvD cX0_copyFrom 57 (.iconst 0) 1 58 := tvDl_get dlk_X0_copyFrom 30 rfl rfl
theorem dk_X0_copyFrom_58 : tvD cX0_copyFrom 58 (.aload_n 0) 1 59 := tvDl_get dlk_X0_copyFrom 31 rfl rfl
theorem dk_X0_copyFrom_59 : tvD cX0_copyFrom 59 (.getfield 21) 3 62 := tvDl_get dlk_X0_copyFrom 32 rfl rfl
theorem dk_X0_copyFrom_62 : tvD cX0_copyFrom 62 (.iconst 0) 1 63 := tvDl_get dlk_X0_copyFrom 33 rfl rfl
theorem dk_X0_copyFrom_63 : tvD cX0_copyFrom 63 (.bipush 10) 2 65 := tvDl_get dlk_X0_copyFrom 34 rfl rfl
theorem dk_X0_copyFrom_65 : tvD cX0_copyFrom 65 (.invokestatic 44) 3 68 := tvDl_get dlk_X0_copyFrom 35 rfl rfl
theorem dk_X0_copyFrom_68 : tvD cX0_copyFrom 68 (.aload_n 1) 1 69 := tvDl_get dlk_X0_copyFrom 36 rfl rfl
theorem dk_X0_copyFrom_69 : tvD cX0_copyFrom 69 (.getfield 25) 3 72 := tvDl_get dlk_X0_copyFrom 37 rfl rfl
theorem dk_X0_copyFrom_72 : tvD cX0_copyFrom 72 (.iconst 0) 1 73 := tvDl_get dlk_X0_copyFrom 38 rfl rfl
theorem dk_X0_copyFrom_73 : tvD cX0_copyFrom 73 (.aload_n 0) 1 74 := tvDl_get dlk_X0_copyFrom 39 rfl rfl
theorem dk_X0_copyFrom_74 : tvD cX0_copyFrom 74 (.getfield 25) 3 77 := tvDl_get dlk_X0_copyFrom 40 rfl rfl
theorem dk_X0_copyFrom_77 : tvD cX0_copyFrom 77 (.iconst 0) 1 78 := tvDl_get dlk_X0_copyFrom 41 rfl rfl
theorem dk_X0_copyFrom_78 : tvD cX0_copyFrom 78 (.bipush 10) 2 80 := tvDl_get dlk_X0_copyFrom 42 rfl rfl
theorem dk_X0_copyFrom_80 : tvD cX0_copyFrom 80 (.invokestatic 44) 3 83 := tvDl_get dlk_X0_copyFrom 43 rfl rfl
theorem dk_X0_copyFrom_83 : tvD cX0_copyFrom 83 (.aload_n 1) 1 84 := tvDl_get dlk_X0_copyFrom 44 rfl rfl
theorem dk_X0_copyFrom_84 : tvD cX0_copyFrom 84 (.getfield 28) 3 87 := tvDl_get dlk_X0_copyFrom 45 rfl rfl
theorem dk_X0_copyFrom_87 : tvD cX0_copyFrom 87 (.iconst 0) 1 88 := tvDl_get dlk_X0_copyFrom 46 rfl rfl
theorem dk_X0_copyFrom_88 : tvD cX0_copyFrom 88 (.aload_n 0) 1 89 := tvDl_get dlk_X0_copyFrom 47 rfl rfl
theorem dk_X0_copyFrom_89 : tvD cX0_copyFrom 89 (.getfield 28) 3 92 := tvDl_get dlk_X0_copyFrom 48 rfl rfl
theorem dk_X0_copyFrom_92 : tvD cX0_copyFrom 92 (.iconst 0) 1 93 := tvDl_get dlk_X0_copyFrom 49 rfl rfl
theorem dk_X0_copyFrom_93 : tvD cX0_copyFrom 93 (.bipush 10) 2 95 := tvDl_get dlk_X0_copyFrom 50 rfl rfl
theorem dk_X0_copyFrom_95 : tvD cX0_copyFrom 95 (.invokestatic 44) 3 98 := tvDl_get dlk_X0_copyFrom 51 rfl rfl
theorem dk_X0_copyFrom_98 : tvD cX0_copyFrom 98 (.aload_n 1) 1 99 := tvDl_get dlk_X0_copyFrom 52 rfl rfl
theorem dk_X0_copyFrom_99 : tvD cX0_copyFrom 99 (.getfield 31) 3 102 := tvDl_get dlk_X0_copyFrom 53 rfl rfl
theorem dk_X0_copyFrom_102 : tvD cX0_copyFrom 102 (.iconst 0) 1 103 := tvDl_get dlk_X0_copyFrom 54 rfl rfl
theorem dk_X0_copyFrom_103 : tvD cX0_copyFrom 103 (.aload_n 0) 1 104 := tvDl_get dlk_X0_copyFrom 55 rfl rfl
theorem dk_X0_copyFrom_104 : tvD cX0_copyFrom 104 (.getfield 31) 3 107 := tvDl_get dlk_X0_copyFrom 56 rfl rfl
theorem dk_X0_copyFrom_107 : tvD cX0_copyFrom 107 (.iconst 0) 1 108 := tvDl_get dlk_X0_copyFrom 57 rfl rfl
theorem dk_X0_copyFrom_108 : tvD cX0_copyFrom 108 (.bipush 10) 2 110 := tvDl_get dlk_X0_copyFrom 58 rfl rfl
theorem dk_X0_copyFrom_110 : tvD cX0_copyFrom 110 (.invokestatic 44) 3 113 := tvDl_get dlk_X0_copyFrom 59 rfl rfl
def dl_X0_copyFrom_1 : List (Nat × Instr × Nat) := [(113, .aload_n 1, 1), (114, .getfield 34, 3), (117, .iconst 0, 1), (118, .aload_n 0, 1), (119, .getfield 34, 3), (122, .iconst 0, 1), (123, .bipush 10, 2), (125, .invokestatic 44, 3), (128, .aload_n 1, 1), (129, .getfield 37, 3), (132, .iconst 0, 1), (133, .aload_n 0, 1), (134, .getfield 37, 3), (137, .iconst 0, 1), (138, .bipush 50, 2), (140, .invokestatic 44, 3), (143, .return_, 1)]
theorem dlk_X0_copyFrom_1 : tvDl cX0_copyFrom dl_X0_copyFrom_1 = true := by decide +kernel
theorem dk_X0_copyFrom_113 : tvD cX0_copyFrom 113 (.aload_n 1) 1 114 := tvDl_get dlk_X0_copyFrom_1 0 rfl rfl
theorem dk_X0_copyFrom_114 : tvD cX0_copyFrom 114 (.getfield 34) 3 117 := tvDl_get dlk_X0_copyFrom_1 1 rfl rfl
theorem dk_X0_copyFrom_117 : tvD cX0_copyFrom 117 (.iconst 0) 1 118 := tvDl_get dlk_X0_copyFrom_1 2 rfl rfl
theorem dk_X0_copyFrom_118 : tvD cX0_copyFrom 118 (.aload_n 0) 1 119 := tvDl_get dlk_X0_copyFrom_1 3 rfl rfl
theorem dk_X0_copyFrom_119 : tvD cX0_copyFrom 119 (.getfield 34) 3 122 := tvDl_get dlk_X0_copyFrom_1 4 rfl rfl
theorem dk_X0_copyFrom_122 : tvD cX0_copyFrom 122 (.iconst 0) 1 123 := tvDl_get dlk_X0_copyFrom_1 5 rfl rfl
theorem dk_X0_copyFrom_123 : tvD cX0_copyFrom 123 (.bipush 10) 2 125 := tvDl_get dlk_X0_copyFrom_1 6 rfl rfl
theorem dk_X0_copyFrom_125 : tvD cX0_copyFrom 125 (.invokestatic 44) 3 128 := tvDl_get dlk_X0_copyFrom_1 7 rfl rfl
theorem dk_X0_copyFrom_128 : tvD cX0_copyFrom 128 (.aload_n 1) 1 129 := tvDl_get dlk_X0_copyFrom_1 8 rfl rfl
theorem dk_X0_copyFrom_129 : tvD cX0_copyFrom 129 (.getfield 37) 3 132 := tvDl_get dlk_X0_copyFrom_1 9 rfl rfl
theorem dk_X0_copyFrom_132 : tvD cX0_copyFrom 132 (.iconst 0) 1 133 := tvDl_get dlk_X0_copyFrom_1 10 rfl rfl
theorem dk_X0_copyFrom_133 : tvD cX0_copyFrom 133 (.aload_n 0) 1 134 := tvDl_get dlk_X0_copyFrom_1 11 rfl rfl
theorem dk_X0_copyFrom_134 : tvD cX0_copyFrom 134 (.getfield 37) 3 137 := tvDl_get dlk_X0_copyFrom_1 12 rfl rfl
theorem dk_X0_copyFrom_137 : tvD cX0_copyFrom 137 (.iconst 0) 1 138 := tvDl_get dlk_X0_copyFrom_1 13 rfl rfl
theorem dk_X0_copyFrom_138 : tvD cX0_copyFrom 138 (.bipush 50) 2 140 := tvDl_get dlk_X0_copyFrom_1 14 rfl rfl
theorem dk_X0_copyFrom_140 : tvD cX0_copyFrom 140 (.invokestatic 44) 3 143 := tvDl_get dlk_X0_copyFrom_1 15 rfl rfl
theorem dk_X0_copyFrom_143 : tvD cX0_copyFrom 143 (.return_) 1 144 := tvDl_get dlk_X0_copyFrom_1 16 rfl rfl
def dl_X0_countIn : List (Nat × Instr × Nat) := [(0, .iconst 0, 1), (1, .istore_n 2, 1), (2, .iconst 0, 1), (3, .istore_n 3, 1), (4, .iload_n 3, 1), (5, .aload_n 0, 1), (6, .getfield 40, 3), (9, .if_icmp .ge 21, 3), (12, .aload_n 0, 1), (13, .iload_n 3, 1), (14, .invokevirtual 58, 3), (17, .iload_n 1, 1), (18, .if_icmp .ne 6, 3), (21, .iinc 2 1, 3), (24, .iinc 3 1, 3), (27, .goto (-23), 3), (30, .iload_n 2, 1), (31, .ireturn, 1)]
theorem dlk_X0_countIn : tvDl cX0_countIn dl_X0_countIn = true := by decide +kernel
theorem dk_X0_countIn_0 : tvD cX0_countIn 0 (.iconst 0) 1 1 := tvDl_get dlk_X0_countIn 0 rfl rfl
theorem dk_X0_countIn_1 : tvD cX0_countIn 1 (.istore_n 2) 1 2 := tvDl_get dlk_X0_countIn 1 rfl rfl
theorem dk_X0_countIn_2 : tvD cX0_countIn 2 (.iconst 0) 1 3 := tvDl_get dlk_X0_countIn 2 rfl rfl
theorem dk_X0_countIn_3 : tvD cX0_countIn 3 (.istore_n 3) 1 4 := tvDl_get dlk_X0_countIn 3 rfl rfl
theorem dk_X0_countIn_4 : tvD cX0_countIn 4 (.iload_n 3) 1 5 := tvDl_get dlk_X0_countIn 4 rfl rfl
theorem dk_X0_countIn_5 : tvD cX0_countIn 5 (.aload_n 0) 1 6 := tvDl_get dlk_X0_countIn 5 rfl rfl
theorem dk_X0_countIn_6 : tvD cX0_countIn 6 (.getfield 40) 3 9 := tvDl_get dlk_X0_countIn 6 rfl rfl
theorem dk_X0_countIn_9 : tvJ cX0_countIn 9 (.if_icmp .ge) 30 12 := tvJl_get dlk_X0_countIn 7 rfl (by decide) rfl
theorem dk_X0_countIn_12 : tvD cX0_countIn 12 (.aload_n 0) 1 13 := tvDl_get dlk_X0_countIn 8 rfl rfl
theorem dk_X0_countIn_13 : tvD cX0_countIn 13 (.iload_n 3) 1 14 := tvDl_get dlk_X0_countIn 9 rfl rfl
theorem dk_X0_countIn_14 : tvD cX0_countIn 14 (.invokevirtual 58) 3 17 := tvDl_get dlk_X0_countIn 10 rfl rfl
theorem dk_X0_countIn_17 : tvD cX0_countIn 17 (.iload_n 1) 1 18 := tvDl_get dlk_X0_countIn 11 rfl rfl
theorem dk_X0_countIn_18 : tvJ cX0_countIn 18 (.if_icmp .ne) 24 21 := tvJl_get dlk_X0_countIn 12 rfl (by decide) rfl
theorem dk_X0_countIn_21 : tvD cX0_countIn 21 (.iinc 2 1) 3 24 := tvDl_get dlk_X0_countIn 13 rfl rfl
theorem dk_X0_countIn_24 : tvD cX0_countIn 24 (.iinc 3 1) 3 27 := tvDl_get dlk_X0_countIn 14 rfl rfl
theorem dk_X0_countIn_27 : tvJ cX0_countIn 27 .goto 4 30 := tvJl_get dlk_X0_countIn 15 rfl (by decide) rfl
theorem dk_X0_countIn_30 : tvD cX0_countIn 30 (.iload_n 2) 1 31 := tvDl_get dlk_X0_countIn 16 rfl rfl
theorem dk_X0_countIn_31 : tvD cX0_countIn 31 (.ireturn) 1 32 := tvDl_get dlk_X0_countIn 17 rfl rfl
def dl_X0_countOf : List (Nat × Instr × Nat) := [(0, .iconst 0, 1), (1, .istore_n 2, 1), (2, .iconst 0, 1), (3, .istore_n 3, 1), (4, .iload_n 3, 1), (5, .aload_n 0, 1), (6, .getfield 40, 3), (9, .if_icmp .ge 21, 3), (12, .aload_n 0, 1), (13, .iload_n 3, 1), (14, .iload_n 1, 1), (15, .invokevirtual 54, 3), (18, .ifCond .eq 6, 3), (21, .iinc 2 1, 3), (24, .iinc 3 1, 3), (27, .goto (-23), 3), (30, .iload_n 2, 1), (31, .ireturn, 1)]
theorem dlk_X0_countOf : tvDl cX0_countOf dl_X0_countOf = true := by decide +kernel
theorem dk_X0_countOf_0 : tvD cX0_countOf 0 (.iconst 0) 1 1 := tvDl_get dlk_X0_countOf 0 rfl rfl
theorem dk_X0_countOf_1 : tvD cX0_countOf 1 (.istore_n 2) 1 2 := tvDl_get dlk_X0_countOf 1 rfl rfl
theorem dk_X0_countOf_2 : tvD cX0_countOf 2 (.iconst 0) 1 3 := tvDl_get dlk_X0_countOf 2 rfl rfl
theorem dk_X0_countOf_3 : tvD cX0_countOf 3 (.istore_n 3) 1 4 := tvDl_get dlk_X0_countOf 3 rfl rfl
theorem dk_X0_countOf_4 : tvD cX0_countOf 4 (.iload_n 3) 1 5 := tvDl_get dlk_X0_countOf 4 rfl rfl
theorem dk_X0_countOf_5 : tvD cX0_countOf 5 (.aload_n 0) 1 6 := tvDl_get dlk_X0_countOf 5 rfl rfl
theorem dk_X0_countOf_6 : tvD cX0_countOf 6 (.getfield 40) 3 9 := tvDl_get dlk_X0_countOf 6 rfl rfl
theorem dk_X0_countOf_9 : tvJ cX0_countOf 9 (.if_icmp .ge) 30 12 := tvJl_get dlk_X0_countOf 7 rfl (by decide) rfl
theorem dk_X0_countOf_12 : tvD cX0_countOf 12 (.aload_n 0) 1 13 := tvDl_get dlk_X0_countOf 8 rfl rfl
theorem dk_X0_countOf_13 : tvD cX0_countOf 13 (.iload_n 3) 1 14 := tvDl_get dlk_X0_countOf 9 rfl rfl
theorem dk_X0_countOf_14 : tvD cX0_countOf 14 (.iload_n 1) 1 15 := tvDl_get dlk_X0_countOf 10 rfl rfl
theorem dk_X0_countOf_15 : tvD cX0_countOf 15 (.invokevirtual 54) 3 18 := tvDl_get dlk_X0_countOf 11 rfl rfl
theorem dk_X0_countOf_18 : tvJ cX0_countOf 18 (.ifCond .eq) 24 21 := tvJl_get dlk_X0_countOf 12 rfl (by decide) rfl
theorem dk_X0_countOf_21 : tvD cX0_countOf 21 (.iinc 2 1) 3 24 := tvDl_get dlk_X0_countOf 13 rfl rfl
theorem dk_X0_countOf_24 : tvD cX0_countOf 24 (.iinc 3 1) 3 27 := tvDl_get dlk_X0_countOf 14 rfl rfl
theorem dk_X0_countOf_27 : tvJ cX0_countOf 27 .goto 4 30 := tvJl_get dlk_X0_countOf 15 rfl (by decide) rfl
theorem dk_X0_countOf_30 : tvD cX0_countOf 30 (.iload_n 2) 1 31 := tvDl_get dlk_X0_countOf 16 rfl rfl
theorem dk_X0_countOf_31 : tvD cX0_countOf 31 (.ireturn) 1 32 := tvDl_get dlk_X0_countOf 17 rfl rfl
def dl_X0_firstOf : List (Nat × Instr × Nat) := [(0, .aload_n 0, 1), (1, .iload_n 1, 1), (2, .invokevirtual 50, 3), (5, .ifCond .eq 12, 3), (8, .aload_n 0, 1), (9, .getfield 25, 3), (12, .iload_n 1, 1), (13, .iaload, 1), (14, .goto 4, 3), (17, .iconst (-1), 1), (18, .ireturn, 1)]
theorem dlk_X0_firstOf : tvDl cX0_firstOf dl_X0_firstOf = true := by decide +kernel
theorem dk_X0_firstOf_0 : tvD cX0_firstOf 0 (.aload_n 0) 1 1 := tvDl_get dlk_X0_firstOf 0 rfl rfl
theorem dk_X0_firstOf_1 : tvD cX0_firstOf 1 (.iload_n 1) 1 2 := tvDl_get dlk_X0_firstOf 1 rfl rfl
theorem dk_X0_firstOf_2 : tvD cX0_firstOf 2 (.invokevirtual 50) 3 5 := tvDl_get dlk_X0_firstOf 2 rfl rfl
theorem dk_X0_firstOf_5 : tvJ cX0_firstOf 5 (.ifCond .eq) 17 8 := tvJl_get dlk_X0_firstOf 3 rfl (by decide) rfl
theorem dk_X0_firstOf_8 : tvD cX0_firstOf 8 (.aload_n 0) 1 9 := tvDl_get dlk_X0_firstOf 4 rfl rfl
theorem dk_X0_firstOf_9 : tvD cX0_firstOf 9 (.getfield 25) 3 12 := tvDl_get dlk_X0_firstOf 5 rfl rfl
theorem dk_X0_firstOf_12 : tvD cX0_firstOf 12 (.iload_n 1) 1 13 := tvDl_get dlk_X0_firstOf 6 rfl rfl
theorem dk_X0_firstOf_13 : tvD cX0_firstOf 13 (.iaload) 1 14 := tvDl_get dlk_X0_firstOf 7 rfl rfl
theorem dk_X0_firstOf_14 : tvJ cX0_firstOf 14 .goto 18 17 := tvJl_get dlk_X0_firstOf 8 rfl (by decide) rfl
theorem dk_X0_firstOf_17 : tvD cX0_firstOf 17 (.iconst (-1)) 1 18 := tvDl_get dlk_X0_firstOf 9 rfl rfl
theorem dk_X0_firstOf_18 : tvD cX0_firstOf 18 (.ireturn) 1 19 := tvDl_get dlk_X0_firstOf 10 rfl rfl
def dl_X0_halfOpen : List (Nat × Instr × Nat) := [(0, .aload_n 0, 1), (1, .iload_n 1, 1), (2, .invokevirtual 50, 3), (5, .ifCond .eq 18, 3), (8, .aload_n 0, 1), (9, .getfield 25, 3), (12, .iload_n 1, 1), (13, .iload_n 2, 1), (14, .iastore, 1), (15, .aload_n 0, 1), (16, .bipush 104, 2), (18, .iload_n 1, 1), (19, .iload_n 3, 1), (20, .invokevirtual 66, 3), (23, .return_, 1)]
theorem dlk_X0_halfOpen : tvDl cX0_halfOpen dl_X0_halfOpen = true := by decide +kernel
theorem dk_X0_halfOpen_0 : tvD cX0_halfOpen 0 (.aload_n 0) 1 1 := tvDl_get dlk_X0_halfOpen 0 rfl rfl
theorem dk_X0_halfOpen_1 : tvD cX0_halfOpen 1 (.iload_n 1) 1 2 := tvDl_get dlk_X0_halfOpen 1 rfl rfl
theorem dk_X0_halfOpen_2 : tvD cX0_halfOpen 2 (.invokevirtual 50) 3 5 := tvDl_get dlk_X0_halfOpen 2 rfl rfl
theorem dk_X0_halfOpen_5 : tvJ cX0_halfOpen 5 (.ifCond .eq) 23 8 := tvJl_get dlk_X0_halfOpen 3 rfl (by decide) rfl
theorem dk_X0_halfOpen_8 : tvD cX0_halfOpen 8 (.aload_n 0) 1 9 := tvDl_get dlk_X0_halfOpen 4 rfl rfl
theorem dk_X0_halfOpen_9 : tvD cX0_halfOpen 9 (.getfield 25) 3 12 := tvDl_get dlk_X0_halfOpen 5 rfl rfl
theorem dk_X0_halfOpen_12 : tvD cX0_halfOpen 12 (.iload_n 1) 1 13 := tvDl_get dlk_X0_halfOpen 6 rfl rfl
theorem dk_X0_halfOpen_13 : tvD cX0_halfOpen 13 (.iload_n 2) 1 14 := tvDl_get dlk_X0_halfOpen 7 rfl rfl
theorem dk_X0_halfOpen_14 : tvD cX0_halfOpen 14 (.iastore) 1 15 := tvDl_get dlk_X0_halfOpen 8 rfl rfl
theorem dk_X0_halfOpen_15 : tvD cX0_halfOpen 15 (.aload_n 0) 1 16 := tvDl_get dlk_X0_halfOpen 9 rfl rfl
theorem dk_X0_halfOpen_16 : tvD cX0_halfOpen 16 (.bipush 104) 2 18 := tvDl_get dlk_X0_halfOpen 10 rfl rfl
theorem dk_X0_halfOpen_18 : tvD cX0_halfOpen 18 (.iload_n 1) 1 19 := tvDl_get dlk_X0_halfOpen 11 rfl rfl
theorem dk_X0_halfOpen_19 : tvD cX0_halfOpen 19 (.iload_n 3) 1 20 := tvDl_get dlk_X0_halfOpen 12 rfl rfl
theorem dk_X0_halfOpen_20 : tvD cX0_halfOpen 20 (.invokevirtual 66) 3 23 := tvDl_get dlk_X0_halfOpen 13 rfl rfl
theorem dk_X0_halfOpen_23 : tvD cX0_halfOpen 23 (.return_) 1 24 := tvDl_get dlk_X0_halfOpen 14 rfl rfl
def dl_X0_has : List (Nat × Instr × Nat) := [(0, .iload_n 1, 1), (1, .ifCond .lt 21, 3), (4, .iload_n 1, 1), (5, .aload_n 0, 1), (6, .getfield 40, 3), (9, .if_icmp .ge 13, 3), (12, .iload_n 1, 1), (13, .bipush 10, 2), (15, .if_icmp .ge 7, 3), (18, .iconst 1, 1), (19, .goto 4, 3), (22, .iconst 0, 1), (23, .ireturn, 1)]
theorem dlk_X0_has : tvDl cX0_has dl_X0_has = true := by decide +kernel
theorem dk_X0_has_0 : tvD cX0_has 0 (.iload_n 1) 1 1 := tvDl_get dlk_X0_has 0 rfl rfl
theorem dk_X0_has_1 : tvJ cX0_has 1 (.ifCond .lt) 22 4 := tvJl_get dlk_X0_has 1 rfl (by decide) rfl
theorem dk_X0_has_4 : tvD cX0_has 4 (.iload_n 1) 1 5 := tvDl_get dlk_X0_has 2 rfl rfl
theorem dk_X0_has_5 : tvD cX0_has 5 (.aload_n 0) 1 6 := tvDl_get dlk_X0_has 3 rfl rfl
theorem dk_X0_has_6 : tvD cX0_has 6 (.getfield 40) 3 9 := tvDl_get dlk_X0_has 4 rfl rfl
theorem dk_X0_has_9 : tvJ cX0_has 9 (.if_icmp .ge) 22 12 := tvJl_get dlk_X0_has 5 rfl (by decide) rfl
theorem dk_X0_has_12 : tvD cX0_has 12 (.iload_n 1) 1 13 := tvDl_get dlk_X0_has 6 rfl rfl
theorem dk_X0_has_13 : tvD cX0_has 13 (.bipush 10) 2 15 := tvDl_get dlk_X0_has 7 rfl rfl
theorem dk_X0_has_15 : tvJ cX0_has 15 (.if_icmp .ge) 22 18 := tvJl_get dlk_X0_has 8 rfl (by decide) rfl
theorem dk_X0_has_18 : tvD cX0_has 18 (.iconst 1) 1 19 := tvDl_get dlk_X0_has 9 rfl rfl
theorem dk_X0_has_19 : tvJ cX0_has 19 .goto 23 22 := tvJl_get dlk_X0_has 10 rfl (by decide) rfl
theorem dk_X0_has_22 : tvD cX0_has 22 (.iconst 0) 1 23 := tvDl_get dlk_X0_has 11 rfl rfl
theorem dk_X0_has_23 : tvD cX0_has 23 (.ireturn) 1 24 := tvDl_get dlk_X0_has 12 rfl rfl
def dl_X0_isOverdue : List (Nat × Instr × Nat) := [(0, .aload_n 0, 1), (1, .iload_n 1, 1), (2, .invokevirtual 58, 3), (5, .istore_n 3, 1), (6, .iload_n 2, 1), (7, .aload_n 0, 1), (8, .iload_n 1, 1), (9, .invokevirtual 70, 3), (12, .isub, 1), (13, .istore 4, 2), (15, .iload_n 3, 1), (16, .bipush 104, 2), (18, .if_icmp .ne 9, 3), (21, .iload 4, 2), (23, .iconst 5, 1), (24, .if_icmp .ge 16, 3), (27, .iload_n 3, 1), (28, .bipush 111, 2), (30, .if_icmp .ne 14, 3), (33, .iload 4, 2), (35, .bipush 10, 2), (37, .if_icmp .lt 7, 3), (40, .iconst 1, 1), (41, .goto 4, 3), (44, .iconst 0, 1), (45, .ireturn, 1)]
theorem dlk_X0_isOverdue : tvDl cX0_isOverdue dl_X0_isOverdue = true := by decide +kernel
theorem dk_X0_isOverdue_0 : tvD cX0_isOverdue 0 (.aload_n 0) 1 1 := tvDl_get dlk_X0_isOverdue 0 rfl rfl
theorem dk_X0_isOverdue_1 : tvD cX0_isOverdue 1 (.iload_n 1) 1 2 := tvDl_get dlk_X0_isOverdue 1 rfl rfl
theorem dk_X0_isOverdue_2 : tvD cX0_isOverdue 2 (.invokevirtual 58) 3 5 := tvDl_get dlk_X0_isOverdue 2 rfl rfl
theorem dk_X0_isOverdue_5 : tvD cX0_isOverdue 5 (.istore_n 3) 1 6 := tvDl_get dlk_X0_isOverdue 3 rfl rfl
theorem dk_X0_isOverdue_6 : tvD cX0_isOverdue 6 (.iload_n 2) 1 7 := tvDl_get dlk_X0_isOverdue 4 rfl rfl
theorem dk_X0_isOverdue_7 : tvD cX0_isOverdue 7 (.aload_n 0) 1 8 := tvDl_get dlk_X0_isOverdue 5 rfl rfl
theorem dk_X0_isOverdue_8 : tvD cX0_isOverdue 8 (.iload_n 1) 1 9 := tvDl_get dlk_X0_isOverdue 6 rfl rfl
theorem dk_X0_isOverdue_9 : tvD cX0_isOverdue 9 (.invokevirtual 70) 3 12 := tvDl_get dlk_X0_isOverdue 7 rfl rfl
theorem dk_X0_isOverdue_12 : tvD cX0_isOverdue 12 (.isub) 1 13 := tvDl_get dlk_X0_isOverdue 8 rfl rfl
theorem dk_X0_isOverdue_13 : tvD cX0_isOverdue 13 (.istore 4) 2 15 := tvDl_get dlk_X0_isOverdue 9 rfl rfl
theorem dk_X0_isOverdue_15 : tvD cX0_isOverdue 15 (.iload_n 3) 1 16 := tvDl_get dlk_X0_isOverdue 10 rfl rfl
theorem dk_X0_isOverdue_16 : tvD cX0_isOverdue 16 (.bipush 104) 2 18 := tvDl_get dlk_X0_isOverdue 11 rfl rfl
theorem dk_X0_isOverdue_18 : tvJ cX0_isOverdue 18 (.if_icmp .ne) 27 21 := tvJl_get dlk_X0_isOverdue 12 rfl (by decide) rfl
theorem dk_X0_isOverdue_21 : tvD cX0_isOverdue 21 (.iload 4) 2 23 := tvDl_get dlk_X0_isOverdue 13 rfl rfl
theorem dk_X0_isOverdue_23 : tvD cX0_isOverdue 23 (.iconst 5) 1 24 := tvDl_get dlk_X0_isOverdue 14 rfl rfl
theorem dk_X0_isOverdue_24 : tvJ cX0_isOverdue 24 (.if_icmp .ge) 40 27 := tvJl_get dlk_X0_isOverdue 15 rfl (by decide) rfl
theorem dk_X0_isOverdue_27 : tvD cX0_isOverdue 27 (.iload_n 3) 1 28 := tvDl_get dlk_X0_isOverdue 16 rfl rfl
theorem dk_X0_isOverdue_28 : tvD cX0_isOverdue 28 (.bipush 111) 2 30 := tvDl_get dlk_X0_isOverdue 17 rfl rfl
theorem dk_X0_isOverdue_30 : tvJ cX0_isOverdue 30 (.if_icmp .ne) 44 33 := tvJl_get dlk_X0_isOverdue 18 rfl (by decide) rfl
theorem dk_X0_isOverdue_33 : tvD cX0_isOverdue 33 (.iload 4) 2 35 := tvDl_get dlk_X0_isOverdue 19 rfl rfl
theorem dk_X0_isOverdue_35 : tvD cX0_isOverdue 35 (.bipush 10) 2 37 := tvDl_get dlk_X0_isOverdue 20 rfl rfl
theorem dk_X0_isOverdue_37 : tvJ cX0_isOverdue 37 (.if_icmp .lt) 44 40 := tvJl_get dlk_X0_isOverdue 21 rfl (by decide) rfl
theorem dk_X0_isOverdue_40 : tvD cX0_isOverdue 40 (.iconst 1) 1 41 := tvDl_get dlk_X0_isOverdue 22 rfl rfl
theorem dk_X0_isOverdue_41 : tvJ cX0_isOverdue 41 .goto 45 44 := tvJl_get dlk_X0_isOverdue 23 rfl (by decide) rfl
theorem dk_X0_isOverdue_44 : tvD cX0_isOverdue 44 (.iconst 0) 1 45 := tvDl_get dlk_X0_isOverdue 24 rfl rfl
theorem dk_X0_isOverdue_45 : tvD cX0_isOverdue 45 (.ireturn) 1 46 := tvDl_get dlk_X0_isOverdue 25 rfl rfl
def dl_X0_partnerOf : List (Nat × Instr × Nat) := [(0, .aload_n 0, 1), (1, .iload_n 1, 1), (2, .invokevirtual 50, 3), (5, .ifCond .ne 5, 3), (8, .iconst (-1), 1), (9, .ireturn, 1), (10, .aload_n 0, 1), (11, .getfield 9, 3), (14, .iload_n 1, 1), (15, .iaload, 1), (16, .iload_n 2, 1), (17, .if_icmp .ne 12, 3), (20, .aload_n 0, 1), (21, .getfield 15, 3), (24, .iload_n 1, 1), (25, .iaload, 1), (26, .goto 9, 3), (29, .aload_n 0, 1), (30, .getfield 9, 3), (33, .iload_n 1, 1), (34, .iaload, 1), (35, .ireturn, 1)]
theorem dlk_X0_partnerOf : tvDl cX0_partnerOf dl_X0_partnerOf = true := by decide +kernel
theorem dk_X0_partnerOf_0 : tvD cX0_partnerOf 0 (.aload_n 0) 1 1 := tvDl_get dlk_X0_partnerOf 0 rfl rfl
theorem dk_X0_partnerOf_1 : tvD cX0_partnerOf 1 (.iload_n 1) 1 2 := tvDl_get dlk_X0_partnerOf 1 rfl rfl
theorem dk_X0_partnerOf_2 : tvD cX0_partnerOf 2 (.invokevirtual 50) 3 5 := tvDl_get dlk_X0_partnerOf 2 rfl rfl
theorem dk_X0_partnerOf_5 : tvJ cX0_partnerOf 5 (.ifCond .ne) 10 8 := tvJl_get dlk_X0_partnerOf 3 rfl (by decide) rfl
theorem dk_X0_partnerOf_8 : tvD cX0_partnerOf 8 (.iconst (-1)) 1 9 := tvDl_get dlk_X0_partnerOf 4 rfl rfl
theorem dk_X0_partnerOf_9 : tvD cX0_partnerOf 9 (.ireturn) 1 10 := tvDl_get dlk_X0_partnerOf 5 rfl rfl
theorem dk_X0_partnerOf_10 : tvD cX0_partnerOf 10 (.aload_n 0) 1 11 := tvDl_get dlk_X0_partnerOf 6 rfl rfl
theorem dk_X0_partnerOf_11 : tvD cX0_partnerOf 11 (.getfield 9) 3 14 := tvDl_get dlk_X0_partnerOf 7 rfl rfl
theorem dk_X0_partnerOf_14 : tvD cX0_partnerOf 14 (.iload_n 1) 1 15 := tvDl_get dlk_X0_partnerOf 8 rfl rfl
theorem dk_X0_partnerOf_15 : tvD cX0_partnerOf 15 (.iaload) 1 16 := tvDl_get dlk_X0_partnerOf 9 rfl rfl
theorem dk_X0_partnerOf_16 : tvD cX0_partnerOf 16 (.iload_n 2) 1 17 := tvDl_get dlk_X0_partnerOf 10 rfl rfl
theorem dk_X0_partnerOf_17 : tvJ cX0_partnerOf 17 (.if_icmp .ne) 29 20 := tvJl_get dlk_X0_partnerOf 11 rfl (by decide) rfl
theorem dk_X0_partnerOf_20 : tvD cX0_partnerOf 20 (.aload_n 0) 1 21 := tvDl_get dlk_X0_partnerOf 12 rfl rfl
theorem dk_X0_partnerOf_21 : tvD cX0_partnerOf 21 (.getfield 15) 3 24 := tvDl_get dlk_X0_partnerOf 13 rfl rfl
theorem dk_X0_partnerOf_24 : tvD cX0_partnerOf 24 (.iload_n 1) 1 25 := tvDl_get dlk_X0_partnerOf 14 rfl rfl
theorem dk_X0_partnerOf_25 : tvD cX0_partnerOf 25 (.iaload) 1 26 := tvDl_get dlk_X0_partnerOf 15 rfl rfl
theorem dk_X0_partnerOf_26 : tvJ cX0_partnerOf 26 .goto 35 29 := tvJl_get dlk_X0_partnerOf 16 rfl (by decide) rfl
theorem dk_X0_partnerOf_29 : tvD cX0_partnerOf 29 (.aload_n 0) 1 30 := tvDl_get dlk_X0_partnerOf 17 rfl rfl
theorem dk_X0_partnerOf_30 : tvD cX0_partnerOf 30 (.getfield 9) 3 33 := tvDl_get dlk_X0_partnerOf 18 rfl rfl
theorem dk_X0_partnerOf_33 : tvD cX0_partnerOf 33 (.iload_n 1) 1 34 := tvDl_get dlk_X0_partnerOf 19 rfl rfl
theorem dk_X0_partnerOf_34 : tvD cX0_partnerOf 34 (.iaload) 1 35 := tvDl_get dlk_X0_partnerOf 20 rfl rfl
theorem dk_X0_partnerOf_35 : tvD cX0_partnerOf 35 (.ireturn) 1 36 := tvDl_get dlk_X0_partnerOf 21 rfl rfl
def dl_X0_pearlsIn : List (Nat × Instr × Nat) := [(0, .aload_n 0, 1), (1, .iload_n 1, 1), (2, .invokevirtual 50, 3), (5, .ifCond .eq 12, 3), (8, .aload_n 0, 1), (9, .getfield 34, 3), (12, .iload_n 1, 1), (13, .iaload, 1), (14, .goto 4, 3), (17, .iconst 0, 1), (18, .ireturn, 1)]
theorem dlk_X0_pearlsIn : tvDl cX0_pearlsIn dl_X0_pearlsIn = true := by decide +kernel
theorem dk_X0_pearlsIn_0 : tvD cX0_pearlsIn 0 (.aload_n 0) 1 1 := tvDl_get dlk_X0_pearlsIn 0 rfl rfl
theorem dk_X0_pearlsIn_1 : tvD cX0_pearlsIn 1 (.iload_n 1) 1 2 := tvDl_get dlk_X0_pearlsIn 1 rfl rfl
theorem dk_X0_pearlsIn_2 : tvD cX0_pearlsIn 2 (.invokevirtual 50) 3 5 := tvDl_get dlk_X0_pearlsIn 2 rfl rfl
theorem dk_X0_pearlsIn_5 : tvJ cX0_pearlsIn 5 (.ifCond .eq) 17 8 := tvJl_get dlk_X0_pearlsIn 3 rfl (by decide) rfl
theorem dk_X0_pearlsIn_8 : tvD cX0_pearlsIn 8 (.aload_n 0) 1 9 := tvDl_get dlk_X0_pearlsIn 4 rfl rfl
theorem dk_X0_pearlsIn_9 : tvD cX0_pearlsIn 9 (.getfield 34) 3 12 := tvDl_get dlk_X0_pearlsIn 5 rfl rfl
theorem dk_X0_pearlsIn_12 : tvD cX0_pearlsIn 12 (.iload_n 1) 1 13 := tvDl_get dlk_X0_pearlsIn 6 rfl rfl
theorem dk_X0_pearlsIn_13 : tvD cX0_pearlsIn 13 (.iaload) 1 14 := tvDl_get dlk_X0_pearlsIn 7 rfl rfl
theorem dk_X0_pearlsIn_14 : tvJ cX0_pearlsIn 14 .goto 18 17 := tvJl_get dlk_X0_pearlsIn 8 rfl (by decide) rfl
theorem dk_X0_pearlsIn_17 : tvD cX0_pearlsIn 17 (.iconst 0) 1 18 := tvDl_get dlk_X0_pearlsIn 9 rfl rfl
theorem dk_X0_pearlsIn_18 : tvD cX0_pearlsIn 18 (.ireturn) 1 19 := tvDl_get dlk_X0_pearlsIn 10 rfl rfl
def dl_X0_remainingOf : List (Nat × Instr × Nat) := [(0, .aload_n 0, 1), (1, .iload_n 1, 1), (2, .invokevirtual 50, 3), (5, .ifCond .eq 12, 3), (8, .aload_n 0, 1), (9, .getfield 28, 3), (12, .iload_n 1, 1), (13, .iaload, 1), (14, .goto 4, 3), (17, .iconst 0, 1), (18, .ireturn, 1)]
theorem dlk_X0_remainingOf : tvDl cX0_remainingOf dl_X0_remainingOf = true := by decide +kernel
theorem dk_X0_remainingOf_0 : tvD cX0_remainingOf 0 (.aload_n 0) 1 1 := tvDl_get dlk_X0_remainingOf 0 rfl rfl
theorem dk_X0_remainingOf_1 : tvD cX0_remainingOf 1 (.iload_n 1) 1 2 := tvDl_get dlk_X0_remainingOf 1 rfl rfl
theorem dk_X0_remainingOf_2 : tvD cX0_remainingOf 2 (.invokevirtual 50) 3 5 := tvDl_get dlk_X0_remainingOf 2 rfl rfl
theorem dk_X0_remainingOf_5 : tvJ cX0_remainingOf 5 (.ifCond .eq) 17 8 := tvJl_get dlk_X0_remainingOf 3 rfl (by decide) rfl
theorem dk_X0_remainingOf_8 : tvD cX0_remainingOf 8 (.aload_n 0) 1 9 := tvDl_get dlk_X0_remainingOf 4 rfl rfl
theorem dk_X0_remainingOf_9 : tvD cX0_remainingOf 9 (.getfield 28) 3 12 := tvDl_get dlk_X0_remainingOf 5 rfl rfl
theorem dk_X0_remainingOf_12 : tvD cX0_remainingOf 12 (.iload_n 1) 1 13 := tvDl_get dlk_X0_remainingOf 6 rfl rfl
theorem dk_X0_remainingOf_13 : tvD cX0_remainingOf 13 (.iaload) 1 14 := tvDl_get dlk_X0_remainingOf 7 rfl rfl
theorem dk_X0_remainingOf_14 : tvJ cX0_remainingOf 14 .goto 18 17 := tvJl_get dlk_X0_remainingOf 8 rfl (by decide) rfl
theorem dk_X0_remainingOf_17 : tvD cX0_remainingOf 17 (.iconst 0) 1 18 := tvDl_get dlk_X0_remainingOf 9 rfl rfl
theorem dk_X0_remainingOf_18 : tvD cX0_remainingOf 18 (.ireturn) 1 19 := tvDl_get dlk_X0_remainingOf 10 rfl rfl
def dl_X0_setPearls : List (Nat × Instr × Nat) := [(0, .aload_n 0, 1), (1, .iload_n 1, 1), (2, .invokevirtual 50, 3), (5, .ifCond .eq 19, 3), (8, .iload_n 2, 1), (9, .ifCond .lt 15, 3), (12, .iload_n 2, 1), (13, .iconst 5, 1), (14, .if_icmp .gt 10, 3), (17, .aload_n 0, 1), (18, .getfield 34, 3), (21, .iload_n 1, 1), (22, .iload_n 2, 1), (23, .iastore, 1), (24, .aload_n 0, 1), (25, .iload_n 1, 1), (26, .invokevirtual 73, 3), (29, .ireturn, 1)]
theorem dlk_X0_setPearls : tvDl cX0_setPearls dl_X0_setPearls = true := by decide +kernel
theorem dk_X0_setPearls_0 : tvD cX0_setPearls 0 (.aload_n 0) 1 1 := tvDl_get dlk_X0_setPearls 0 rfl rfl
theorem dk_X0_setPearls_1 : tvD cX0_setPearls 1 (.iload_n 1) 1 2 := tvDl_get dlk_X0_setPearls 1 rfl rfl
theorem dk_X0_setPearls_2 : tvD cX0_setPearls 2 (.invokevirtual 50) 3 5 := tvDl_get dlk_X0_setPearls 2 rfl rfl
theorem dk_X0_setPearls_5 : tvJ cX0_setPearls 5 (.ifCond .eq) 24 8 := tvJl_get dlk_X0_setPearls 3 rfl (by decide) rfl
theorem dk_X0_setPearls_8 : tvD cX0_setPearls 8 (.iload_n 2) 1 9 := tvDl_get dlk_X0_setPearls 4 rfl rfl
theorem dk_X0_setPearls_9 : tvJ cX0_setPearls 9 (.ifCond .lt) 24 12 := tvJl_get dlk_X0_setPearls 5 rfl (by decide) rfl
theorem dk_X0_setPearls_12 : tvD cX0_setPearls 12 (.iload_n 2) 1 13 := tvDl_get dlk_X0_setPearls 6 rfl rfl
theorem dk_X0_setPearls_13 : tvD cX0_setPearls 13 (.iconst 5) 1 14 := tvDl_get dlk_X0_setPearls 7 rfl rfl
theorem dk_X0_setPearls_14 : tvJ cX0_setPearls 14 (.if_icmp .gt) 24 17 := tvJl_get dlk_X0_setPearls 8 rfl (by decide) rfl
theorem dk_X0_setPearls_17 : tvD cX0_setPearls 17 (.aload_n 0) 1 18 := tvDl_get dlk_X0_setPearls 9 rfl rfl
theorem dk_X0_setPearls_18 : tvD cX0_setPearls 18 (.getfield 34) 3 21 := tvDl_get dlk_X0_setPearls 10 rfl rfl
theorem dk_X0_setPearls_21 : tvD cX0_setPearls 21 (.iload_n 1) 1 22 := tvDl_get dlk_X0_setPearls 11 rfl rfl
theorem dk_X0_setPearls_22 : tvD cX0_setPearls 22 (.iload_n 2) 1 23 := tvDl_get dlk_X0_setPearls 12 rfl rfl
theorem dk_X0_setPearls_23 : tvD cX0_setPearls 23 (.iastore) 1 24 := tvDl_get dlk_X0_setPearls 13 rfl rfl
theorem dk_X0_setPearls_24 : tvD cX0_setPearls 24 (.aload_n 0) 1 25 := tvDl_get dlk_X0_setPearls 14 rfl rfl
theorem dk_X0_setPearls_25 : tvD cX0_setPearls 25 (.iload_n 1) 1 26 := tvDl_get dlk_X0_setPearls 15 rfl rfl
theorem dk_X0_setPearls_26 : tvD cX0_setPearls 26 (.invokevirtual 73) 3 29 := tvDl_get dlk_X0_setPearls 16 rfl rfl
theorem dk_X0_setPearls_29 : tvD cX0_setPearls 29 (.ireturn) 1 30 := tvDl_get dlk_X0_setPearls 17 rfl rfl
def dl_X0_setValue : List (Nat × Instr × Nat) := [(0, .aload_n 0, 1), (1, .iload_n 1, 1), (2, .invokevirtual 50, 3), (5, .ifCond .eq 23, 3), (8, .iload_n 2, 1), (9, .ifCond .lt 19, 3), (12, .iload_n 2, 1), (13, .iconst 5, 1), (14, .if_icmp .ge 14, 3), (17, .aload_n 0, 1), (18, .getfield 37, 3), (21, .iload_n 1, 1), (22, .iconst 5, 1), (23, .imul, 1), (24, .iload_n 2, 1), (25, .iadd, 1), (26, .iload_n 3, 1), (27, .iastore, 1), (28, .return_, 1)]
theorem dlk_X0_setValue : tvDl cX0_setValue dl_X0_setValue = true := by decide +kernel
theorem dk_X0_setValue_0 : tvD cX0_setValue 0 (.aload_n 0) 1 1 := tvDl_get dlk_X0_setValue 0 rfl rfl
theorem dk_X0_setValue_1 : tvD cX0_setValue 1 (.iload_n 1) 1 2 := tvDl_get dlk_X0_setValue 1 rfl rfl
theorem dk_X0_setValue_2 : tvD cX0_setValue 2 (.invokevirtual 50) 3 5 := tvDl_get dlk_X0_setValue 2 rfl rfl
theorem dk_X0_setValue_5 : tvJ cX0_setValue 5 (.ifCond .eq) 28 8 := tvJl_get dlk_X0_setValue 3 rfl (by decide) rfl
theorem dk_X0_setValue_8 : tvD cX0_setValue 8 (.iload_n 2) 1 9 := tvDl_get dlk_X0_setValue 4 rfl rfl
theorem dk_X0_setValue_9 : tvJ cX0_setValue 9 (.ifCond .lt) 28 12 := tvJl_get dlk_X0_setValue 5 rfl (by decide) rfl
theorem dk_X0_setValue_12 : tvD cX0_setValue 12 (.iload_n 2) 1 13 := tvDl_get dlk_X0_setValue 6 rfl rfl
theorem dk_X0_setValue_13 : tvD cX0_setValue 13 (.iconst 5) 1 14 := tvDl_get dlk_X0_setValue 7 rfl rfl
theorem dk_X0_setValue_14 : tvJ cX0_setValue 14 (.if_icmp .ge) 28 17 := tvJl_get dlk_X0_setValue 8 rfl (by decide) rfl
theorem dk_X0_setValue_17 : tvD cX0_setValue 17 (.aload_n 0) 1 18 := tvDl_get dlk_X0_setValue 9 rfl rfl
theorem dk_X0_setValue_18 : tvD cX0_setValue 18 (.getfield 37) 3 21 := tvDl_get dlk_X0_setValue 10 rfl rfl
theorem dk_X0_setValue_21 : tvD cX0_setValue 21 (.iload_n 1) 1 22 := tvDl_get dlk_X0_setValue 11 rfl rfl
theorem dk_X0_setValue_22 : tvD cX0_setValue 22 (.iconst 5) 1 23 := tvDl_get dlk_X0_setValue 12 rfl rfl
theorem dk_X0_setValue_23 : tvD cX0_setValue 23 (.imul) 1 24 := tvDl_get dlk_X0_setValue 13 rfl rfl
theorem dk_X0_setValue_24 : tvD cX0_setValue 24 (.iload_n 2) 1 25 := tvDl_get dlk_X0_setValue 14 rfl rfl
theorem dk_X0_setValue_25 : tvD cX0_setValue 25 (.iadd) 1 26 := tvDl_get dlk_X0_setValue 15 rfl rfl
theorem dk_X0_setValue_26 : tvD cX0_setValue 26 (.iload_n 3) 1 27 := tvDl_get dlk_X0_setValue 16 rfl rfl
theorem dk_X0_setValue_27 : tvD cX0_setValue 27 (.iastore) 1 28 := tvDl_get dlk_X0_setValue 17 rfl rfl
theorem dk_X0_setValue_28 : tvD cX0_setValue 28 (.return_) 1 29 := tvDl_get dlk_X0_setValue 18 rfl rfl
def dl_X0_sinceOf : List (Nat × Instr × Nat) := [(0, .aload_n 0, 1), (1, .iload_n 1, 1), (2, .invokevirtual 50, 3), (5, .ifCond .eq 12, 3), (8, .aload_n 0, 1), (9, .getfield 31, 3), (12, .iload_n 1, 1), (13, .iaload, 1), (14, .goto 4, 3), (17, .iconst 0, 1), (18, .ireturn, 1)]
theorem dlk_X0_sinceOf : tvDl cX0_sinceOf dl_X0_sinceOf = true := by decide +kernel
theorem dk_X0_sinceOf_0 : tvD cX0_sinceOf 0 (.aload_n 0) 1 1 := tvDl_get dlk_X0_sinceOf 0 rfl rfl
theorem dk_X0_sinceOf_1 : tvD cX0_sinceOf 1 (.iload_n 1) 1 2 := tvDl_get dlk_X0_sinceOf 1 rfl rfl
theorem dk_X0_sinceOf_2 : tvD cX0_sinceOf 2 (.invokevirtual 50) 3 5 := tvDl_get dlk_X0_sinceOf 2 rfl rfl
theorem dk_X0_sinceOf_5 : tvJ cX0_sinceOf 5 (.ifCond .eq) 17 8 := tvJl_get dlk_X0_sinceOf 3 rfl (by decide) rfl
theorem dk_X0_sinceOf_8 : tvD cX0_sinceOf 8 (.aload_n 0) 1 9 := tvDl_get dlk_X0_sinceOf 4 rfl rfl
theorem dk_X0_sinceOf_9 : tvD cX0_sinceOf 9 (.getfield 31) 3 12 := tvDl_get dlk_X0_sinceOf 5 rfl rfl
theorem dk_X0_sinceOf_12 : tvD cX0_sinceOf 12 (.iload_n 1) 1 13 := tvDl_get dlk_X0_sinceOf 6 rfl rfl
theorem dk_X0_sinceOf_13 : tvD cX0_sinceOf 13 (.iaload) 1 14 := tvDl_get dlk_X0_sinceOf 7 rfl rfl
theorem dk_X0_sinceOf_14 : tvJ cX0_sinceOf 14 .goto 18 17 := tvJl_get dlk_X0_sinceOf 8 rfl (by decide) rfl
theorem dk_X0_sinceOf_17 : tvD cX0_sinceOf 17 (.iconst 0) 1 18 := tvDl_get dlk_X0_sinceOf 9 rfl rfl
theorem dk_X0_sinceOf_18 : tvD cX0_sinceOf 18 (.ireturn) 1 19 := tvDl_get dlk_X0_sinceOf 10 rfl rfl
def dl_X0_startDelay : List (Nat × Instr × Nat) := [(0, .aload_n 0, 1), (1, .iload_n 1, 1), (2, .invokevirtual 50, 3), (5, .ifCond .eq 23, 3), (8, .aload_n 0, 1), (9, .getfield 21, 3), (12, .iload_n 1, 1), (13, .bipush 112, 2), (15, .castore, 1), (16, .aload_n 0, 1), (17, .getfield 28, 3), (20, .iload_n 1, 1), (21, .aload_n 0, 1), (22, .getfield 18, 3), (25, .iload_n 1, 1), (26, .iaload, 1), (27, .iastore, 1), (28, .return_, 1)]
theorem dlk_X0_startDelay : tvDl cX0_startDelay dl_X0_startDelay = true := by decide +kernel
theorem dk_X0_startDelay_0 : tvD cX0_startDelay 0 (.aload_n 0) 1 1 := tvDl_get dlk_X0_startDelay 0 rfl rfl
theorem dk_X0_startDelay_1 : tvD cX0_startDelay 1 (.iload_n 1) 1 2 := tvDl_get dlk_X0_startDelay 1 rfl rfl
theorem dk_X0_startDelay_2 : tvD cX0_startDelay 2 (.invokevirtual 50) 3 5 := tvDl_get dlk_X0_startDelay 2 rfl rfl
theorem dk_X0_startDelay_5 : tvJ cX0_startDelay 5 (.ifCond .eq) 28 8 := tvJl_get dlk_X0_startDelay 3 rfl (by decide) rfl
theorem dk_X0_startDelay_8 : tvD cX0_startDelay 8 (.aload_n 0) 1 9 := tvDl_get dlk_X0_startDelay 4 rfl rfl
theorem dk_X0_startDelay_9 : tvD cX0_startDelay 9 (.getfield 21) 3 12 := tvDl_get dlk_X0_startDelay 5 rfl rfl
theorem dk_X0_startDelay_12 : tvD cX0_startDelay 12 (.iload_n 1) 1 13 := tvDl_get dlk_X0_startDelay 6 rfl rfl
theorem dk_X0_startDelay_13 : tvD cX0_startDelay 13 (.bipush 112) 2 15 := tvDl_get dlk_X0_startDelay 7 rfl rfl
theorem dk_X0_startDelay_15 : tvD cX0_startDelay 15 (.castore) 1 16 := tvDl_get dlk_X0_startDelay 8 rfl rfl
theorem dk_X0_startDelay_16 : tvD cX0_startDelay 16 (.aload_n 0) 1 17 := tvDl_get dlk_X0_startDelay 9 rfl rfl
theorem dk_X0_startDelay_17 : tvD cX0_startDelay 17 (.getfield 28) 3 20 := tvDl_get dlk_X0_startDelay 10 rfl rfl
theorem dk_X0_startDelay_20 : tvD cX0_startDelay 20 (.iload_n 1) 1 21 := tvDl_get dlk_X0_startDelay 11 rfl rfl
theorem dk_X0_startDelay_21 : tvD cX0_startDelay 21 (.aload_n 0) 1 22 := tvDl_get dlk_X0_startDelay 12 rfl rfl
theorem dk_X0_startDelay_22 : tvD cX0_startDelay 22 (.getfield 18) 3 25 := tvDl_get dlk_X0_startDelay 13 rfl rfl
theorem dk_X0_startDelay_25 : tvD cX0_startDelay 25 (.iload_n 1) 1 26 := tvDl_get dlk_X0_startDelay 14 rfl rfl
theorem dk_X0_startDelay_26 : tvD cX0_startDelay 26 (.iaload) 1 27 := tvDl_get dlk_X0_startDelay 15 rfl rfl
theorem dk_X0_startDelay_27 : tvD cX0_startDelay 27 (.iastore) 1 28 := tvDl_get dlk_X0_startDelay 16 rfl rfl
theorem dk_X0_startDelay_28 : tvD cX0_startDelay 28 (.return_) 1 29 := tvDl_get dlk_X0_startDelay 17 rfl rfl
def dl_X0_statusOf : List (Nat × Instr × Nat) := [(0, .aload_n 0, 1), (1, .iload_n 1, 1), (2, .invokevirtual 50, 3), (5, .ifCond .eq 12, 3), (8, .aload_n 0, 1), (9, .getfield 21, 3), (12, .iload_n 1, 1), (13, .caload, 1), (14, .goto 5, 3), (17, .bipush 99, 2), (19, .ireturn, 1)]
theorem dlk_X0_statusOf : tvDl cX0_statusOf dl_X0_statusOf = true := by decide +kernel
theorem dk_X0_statusOf_0 : tvD cX0_statusOf 0 (.aload_n 0) 1 1 := tvDl_get dlk_X0_statusOf 0 rfl rfl
theorem dk_X0_statusOf_1 : tvD cX0_statusOf 1 (.iload_n 1) 1 2 := tvDl_get dlk_X0_statusOf 1 rfl rfl
theorem dk_X0_statusOf_2 : tvD cX0_statusOf 2 (.invokevirtual 50) 3 5 := tvDl_get dlk_X0_statusOf 2 rfl rfl
theorem dk_X0_statusOf_5 : tvJ cX0_statusOf 5 (.ifCond .eq) 17 8 := tvJl_get dlk_X0_statusOf 3 rfl (by decide) rfl
theorem dk_X0_statusOf_8 : tvD cX0_statusOf 8 (.aload_n 0) 1 9 := tvDl_get dlk_X0_statusOf 4 rfl rfl
theorem dk_X0_statusOf_9 : tvD cX0_statusOf 9 (.getfield 21) 3 12 := tvDl_get dlk_X0_statusOf 5 rfl rfl
theorem dk_X0_statusOf_12 : tvD cX0_statusOf 12 (.iload_n 1) 1 13 := tvDl_get dlk_X0_statusOf 6 rfl rfl
theorem dk_X0_statusOf_13 : tvD cX0_statusOf 13 (.caload) 1 14 := tvDl_get dlk_X0_statusOf 7 rfl rfl
theorem dk_X0_statusOf_14 : tvJ cX0_statusOf 14 .goto 19 17 := tvJl_get dlk_X0_statusOf 8 rfl (by decide) rfl
theorem dk_X0_statusOf_17 : tvD cX0_statusOf 17 (.bipush 99) 2 19 := tvDl_get dlk_X0_statusOf 9 rfl rfl
theorem dk_X0_statusOf_19 : tvD cX0_statusOf 19 (.ireturn) 1 20 := tvDl_get dlk_X0_statusOf 10 rfl rfl
def dl_X0_valueOf : List (Nat × Instr × Nat) := [(0, .aload_n 0, 1), (1, .iload_n 1, 1), (2, .invokevirtual 50, 3), (5, .ifCond .eq 12, 3), (8, .iload_n 2, 1), (9, .ifCond .lt 8, 3), (12, .iload_n 2, 1), (13, .iconst 5, 1), (14, .if_icmp .lt 5, 3), (17, .iconst 0, 1), (18, .ireturn, 1), (19, .aload_n 0, 1), (20, .getfield 37, 3), (23, .iload_n 1, 1), (24, .iconst 5, 1), (25, .imul, 1), (26, .iload_n 2, 1), (27, .iadd, 1), (28, .iaload, 1), (29, .ireturn, 1)]
theorem dlk_X0_valueOf : tvDl cX0_valueOf dl_X0_valueOf = true := by decide +kernel
theorem dk_X0_valueOf_0 : tvD cX0_valueOf 0 (.aload_n 0) 1 1 := tvDl_get dlk_X0_valueOf 0 rfl rfl
theorem dk_X0_valueOf_1 : tvD cX0_valueOf 1 (.iload_n 1) 1 2 := tvDl_get dlk_X0_valueOf 1 rfl rfl
theorem dk_X0_valueOf_2 : tvD cX0_valueOf 2 (.invokevirtual 50) 3 5 := tvDl_get dlk_X0_valueOf 2 rfl rfl
theorem dk_X0_valueOf_5 : tvJ cX0_valueOf 5 (.ifCond .eq) 17 8 := tvJl_get dlk_X0_valueOf 3 rfl (by decide) rfl
theorem dk_X0_valueOf_8 : tvD cX0_valueOf 8 (.iload_n 2) 1 9 := tvDl_get dlk_X0_valueOf 4 rfl rfl
theorem dk_X0_valueOf_9 : tvJ cX0_valueOf 9 (.ifCond .lt) 17 12 := tvJl_get dlk_X0_valueOf 5 rfl (by decide) rfl
theorem dk_X0_valueOf_12 : tvD cX0_valueOf 12 (.iload_n 2) 1 13 := tvDl_get dlk_X0_valueOf 6 rfl rfl
theorem dk_X0_valueOf_13 : tvD cX0_valueOf 13 (.iconst 5) 1 14 := tvDl_get dlk_X0_valueOf 7 rfl rfl
theorem dk_X0_valueOf_14 : tvJ cX0_valueOf 14 (.if_icmp .lt) 19 17 := tvJl_get dlk_X0_valueOf 8 rfl (by decide) rfl
theorem dk_X0_valueOf_17 : tvD cX0_valueOf 17 (.iconst 0) 1 18 := tvDl_get dlk_X0_valueOf 9 rfl rfl
theorem dk_X0_valueOf_18 : tvD cX0_valueOf 18 (.ireturn) 1 19 := tvDl_get dlk_X0_valueOf 10 rfl rfl
theorem dk_X0_valueOf_19 : tvD cX0_valueOf 19 (.aload_n 0) 1 20 := tvDl_get dlk_X0_valueOf 11 rfl rfl
theorem dk_X0_valueOf_20 : tvD cX0_valueOf 20 (.getfield 37) 3 23 := tvDl_get dlk_X0_valueOf 12 rfl rfl
theorem dk_X0_valueOf_23 : tvD cX0_valueOf 23 (.iload_n 1) 1 24 := tvDl_get dlk_X0_valueOf 13 rfl rfl
theorem dk_X0_valueOf_24 : tvD cX0_valueOf 24 (.iconst 5) 1 25 := tvDl_get dlk_X0_valueOf 14 rfl rfl
theorem dk_X0_valueOf_25 : tvD cX0_valueOf 25 (.imul) 1 26 := tvDl_get dlk_X0_valueOf 15 rfl rfl
theorem dk_X0_valueOf_26 : tvD cX0_valueOf 26 (.iload_n 2) 1 27 := tvDl_get dlk_X0_valueOf 16 rfl rfl
theorem dk_X0_valueOf_27 : tvD cX0_valueOf 27 (.iadd) 1 28 := tvDl_get dlk_X0_valueOf 17 rfl rfl
theorem dk_X0_valueOf_28 : tvD cX0_valueOf 28 (.iaload) 1 29 := tvDl_get dlk_X0_valueOf 18 rfl rfl
theorem dk_X0_valueOf_29 : tvD cX0_valueOf 29 (.ireturn) 1 30 := tvDl_get dlk_X0_valueOf 19 rfl rfl
def dl_X2_add : List (Nat × Instr × Nat) := [(0, .aload_n 0, 1), (1, .getfield 21, 3), (4, .istore_n 2, 1), (5, .iload_n 2, 1), (6, .ifCond .lt 9, 3), (9, .iload_n 2, 1), (10, .bipush 8, 2), (12, .if_icmp .lt 5, 3), (15, .iconst (-1), 1), (16, .ireturn, 1), (17, .aload_n 0, 1), (18, .getfield 9, 3), (21, .iload_n 2, 1), (22, .iload_n 1, 1), (23, .iastore, 1), (24, .aload_n 0, 1), (25, .getfield 15, 3), (28, .iload_n 2, 1), (29, .iconst 0, 1), (30, .iastore, 1), (31, .aload_n 0, 1), (32, .getfield 18, 3), (35, .iload_n 2, 1), (36, .iconst 0, 1), (37, .iastore, 1), (38, .aload_n 0, 1), (39, .dup, 1), (40, .getfield 21, 3), (43, .iconst 1, 1), (44, .iadd, 1), (45, .putfield 21, 3), (48, .iload_n 2, 1), (49, .ireturn, 1)]
theorem dlk_X2_add : tvDl cX2_add dl_X2_add = true := by decide +kernel
theorem dk_X2_add_0 : tvD cX2_add 0 (.aload_n 0) 1 1 := tvDl_get dlk_X2_add 0 rfl rfl
theorem dk_X2_add_1 : tvD cX2_add 1 (.getfield 21) 3 4 := tvDl_get dlk_X2_add 1 rfl rfl
theorem dk_X2_add_4 : tvD cX2_add 4 (.istore_n 2) 1 5 := tvDl_get dlk_X2_add 2 rfl rfl
theorem dk_X2_add_5 : tvD cX2_add 5 (.iload_n 2) 1 6 := tvDl_get dlk_X2_add 3 rfl rfl
theorem dk_X2_add_6 : tvJ cX2_add 6 (.ifCond .lt) 15 9 := tvJl_get dlk_X2_add 4 rfl (by decide) rfl
theorem dk_X2_add_9 : tvD cX2_add 9 (.iload_n 2) 1 10 := tvDl_get dlk_X2_add 5 rfl rfl
theorem dk_X2_add_10 : tvD cX2_add 10 (.bipush 8) 2 12 := tvDl_get dlk_X2_add 6 rfl rfl
theorem dk_X2_add_12 : tvJ cX2_add 12 (.if_icmp .lt) 17 15 := tvJl_get dlk_X2_add 7 rfl (by decide) rfl
theorem dk_X2_add_15 : tvD cX2_add 15 (.iconst (-1)) 1 16 := tvDl_get dlk_X2_add 8 rfl rfl
theorem dk_X2_add_16 : tvD cX2_add 16 (.ireturn) 1 17 := tvDl_get dlk_X2_add 9 rfl rfl
theorem dk_X2_add_17 : tvD cX2_add 17 (.aload_n 0) 1 18 := tvDl_get dlk_X2_add 10 rfl rfl
theorem dk_X2_add_18 : tvD cX2_add 18 (.getfield 9) 3 21 := tvDl_get dlk_X2_add 11 rfl rfl
theorem dk_X2_add_21 : tvD cX2_add 21 (.iload_n 2) 1 22 := tvDl_get dlk_X2_add 12 rfl rfl
theorem dk_X2_add_22 : tvD cX2_add 22 (.iload_n 1) 1 23 := tvDl_get dlk_X2_add 13 rfl rfl
theorem dk_X2_add_23 : tvD cX2_add 23 (.iastore) 1 24 := tvDl_get dlk_X2_add 14 rfl rfl
theorem dk_X2_add_24 : tvD cX2_add 24 (.aload_n 0) 1 25 := tvDl_get dlk_X2_add 15 rfl rfl
theorem dk_X2_add_25 : tvD cX2_add 25 (.getfield 15) 3 28 := tvDl_get dlk_X2_add 16 rfl rfl
theorem dk_X2_add_28 : tvD cX2_add 28 (.iload_n 2) 1 29 := tvDl_get dlk_X2_add 17 rfl rfl
theorem dk_X2_add_29 : tvD cX2_add 29 (.iconst 0) 1 30 := tvDl_get dlk_X2_add 18 rfl rfl
theorem dk_X2_add_30 : tvD cX2_add 30 (.iastore) 1 31 := tvDl_get dlk_X2_add 19 rfl rfl
theorem dk_X2_add_31 : tvD cX2_add 31 (.aload_n 0) 1 32 := tvDl_get dlk_X2_add 20 rfl rfl
theorem dk_X2_add_32 : tvD cX2_add 32 (.getfield 18) 3 35 := tvDl_get dlk_X2_add 21 rfl rfl
theorem dk_X2_add_35 : tvD cX2_add 35 (.iload_n 2) 1 36 := tvDl_get dlk_X2_add 22 rfl rfl
theorem dk_X2_add_36 : tvD cX2_add 36 (.iconst 0) 1 37 := tvDl_get dlk_X2_add 23 rfl rfl
theorem dk_X2_add_37 : tvD cX2_add 37 (.iastore) 1 38 := tvDl_get dlk_X2_add 24 rfl rfl
theorem dk_X2_add_38 : tvD cX2_add 38 (.aload_n 0) 1 39 := tvDl_get dlk_X2_add 25 rfl rfl
theorem dk_X2_add_39 : tvD cX2_add 39 (.dup) 1 40 := tvDl_get dlk_X2_add 26 rfl rfl
theorem dk_X2_add_40 : tvD cX2_add 40 (.getfield 21) 3 43 := tvDl_get dlk_X2_add 27 rfl rfl
theorem dk_X2_add_43 : tvD cX2_add 43 (.iconst 1) 1 44 := tvDl_get dlk_X2_add 28 rfl rfl
theorem dk_X2_add_44 : tvD cX2_add 44 (.iadd) 1 45 := tvDl_get dlk_X2_add 29 rfl rfl
theorem dk_X2_add_45 : tvD cX2_add 45 (.putfield 21) 3 48 := tvDl_get dlk_X2_add 30 rfl rfl
theorem dk_X2_add_48 : tvD cX2_add 48 (.iload_n 2) 1 49 := tvDl_get dlk_X2_add 31 rfl rfl
theorem dk_X2_add_49 : tvD cX2_add 49 (.ireturn) 1 50 := tvDl_get dlk_X2_add 32 rfl rfl
def dl_X2_attemptsOf : List (Nat × Instr × Nat) := [(0, .aload_n 0, 1), (1, .iload_n 1, 1), (2, .invokevirtual 31, 3), (5, .ifCond .eq 12, 3), (8, .aload_n 0, 1), (9, .getfield 15, 3), (12, .iload_n 1, 1), (13, .iaload, 1), (14, .goto 4, 3), (17, .iconst 0, 1), (18, .ireturn, 1)]
theorem dlk_X2_attemptsOf : tvDl cX2_attemptsOf dl_X2_attemptsOf = true := by decide +kernel
theorem dk_X2_attemptsOf_0 : tvD cX2_attemptsOf 0 (.aload_n 0) 1 1 := tvDl_get dlk_X2_attemptsOf 0 rfl rfl
theorem dk_X2_attemptsOf_1 : tvD cX2_attemptsOf 1 (.iload_n 1) 1 2 := tvDl_get dlk_X2_attemptsOf 1 rfl rfl
theorem dk_X2_attemptsOf_2 : tvD cX2_attemptsOf 2 (.invokevirtual 31) 3 5 := tvDl_get dlk_X2_attemptsOf 2 rfl rfl
theorem dk_X2_attemptsOf_5 : tvJ cX2_attemptsOf 5 (.ifCond .eq) 17 8 := tvJl_get dlk_X2_attemptsOf 3 rfl (by decide) rfl
theorem dk_X2_attemptsOf_8 : tvD cX2_attemptsOf 8 (.aload_n 0) 1 9 := tvDl_get dlk_X2_attemptsOf 4 rfl rfl
theorem dk_X2_attemptsOf_9 : tvD cX2_attemptsOf 9 (.getfield 15) 3 12 := tvDl_get dlk_X2_attemptsOf 5 rfl rfl
theorem dk_X2_attemptsOf_12 : tvD cX2_attemptsOf 12 (.iload_n 1) 1 13 := tvDl_get dlk_X2_attemptsOf 6 rfl rfl
theorem dk_X2_attemptsOf_13 : tvD cX2_attemptsOf 13 (.iaload) 1 14 := tvDl_get dlk_X2_attemptsOf 7 rfl rfl
theorem dk_X2_attemptsOf_14 : tvJ cX2_attemptsOf 14 .goto 18 17 := tvJl_get dlk_X2_attemptsOf 8 rfl (by decide) rfl
theorem dk_X2_attemptsOf_17 : tvD cX2_attemptsOf 17 (.iconst 0) 1 18 := tvDl_get dlk_X2_attemptsOf 9 rfl rfl
theorem dk_X2_attemptsOf_18 : tvD cX2_attemptsOf 18 (.ireturn) 1 19 := tvDl_get dlk_X2_attemptsOf 10 rfl rfl
def dl_X2_codeOf : List (Nat × Instr × Nat) := [(0, .aload_n 0, 1), (1, .iload_n 1, 1), (2, .invokevirtual 31, 3), (5, .ifCond .eq 12, 3), (8, .aload_n 0, 1), (9, .getfield 9, 3), (12, .iload_n 1, 1), (13, .iaload, 1), (14, .goto 4, 3), (17, .iconst (-1), 1), (18, .ireturn, 1)]
theorem dlk_X2_codeOf : tvDl cX2_codeOf dl_X2_codeOf = true := by decide +kernel
theorem dk_X2_codeOf_0 : tvD cX2_codeOf 0 (.aload_n 0) 1 1 := tvDl_get dlk_X2_codeOf 0 rfl rfl
theorem dk_X2_codeOf_1 : tvD cX2_codeOf 1 (.iload_n 1) 1 2 := tvDl_get dlk_X2_codeOf 1 rfl rfl
theorem dk_X2_codeOf_2 : tvD cX2_codeOf 2 (.invokevirtual 31) 3 5 := tvDl_get dlk_X2_codeOf 2 rfl rfl
theorem dk_X2_codeOf_5 : tvJ cX2_codeOf 5 (.ifCond .eq) 17 8 := tvJl_get dlk_X2_codeOf 3 rfl (by decide) rfl
theorem dk_X2_codeOf_8 : tvD cX2_codeOf 8 (.aload_n 0) 1 9 := tvDl_get dlk_X2_codeOf 4 rfl rfl
theorem dk_X2_codeOf_9 : tvD cX2_codeOf 9 (.getfield 9) 3 12 := tvDl_get dlk_X2_codeOf 5 rfl rfl
theorem dk_X2_codeOf_12 : tvD cX2_codeOf 12 (.iload_n 1) 1 13 := tvDl_get dlk_X2_codeOf 6 rfl rfl
theorem dk_X2_codeOf_13 : tvD cX2_codeOf 13 (.iaload) 1 14 := tvDl_get dlk_X2_codeOf 7 rfl rfl
theorem dk_X2_codeOf_14 : tvJ cX2_codeOf 14 .goto 18 17 := tvJl_get dlk_X2_codeOf 8 rfl (by decide) rfl
theorem dk_X2_codeOf_17 : tvD cX2_codeOf 17 (.iconst (-1)) 1 18 := tvDl_get dlk_X2_codeOf 9 rfl rfl
theorem dk_X2_codeOf_18 : tvD cX2_codeOf 18 (.ireturn) 1 19 := tvDl_get dlk_X2_codeOf 10 rfl rfl
def dl_X2_copyFrom : List (Nat × Instr × Nat) := [(0, .aload_n 0, 1), (1, .aload_n 1, 1), (2, .getfield 21, 3), (5, .putfield 21, 3), (8, .aload_n 1, 1), (9, .getfield 9, 3), (12, .iconst 0, 1), (13, .aload_n 0, 1), (14, .getfield 9, 3), (17, .iconst 0, 1), (18, .bipush 8, 2), (20, .invokestatic 25, 3), (23, .aload_n 1, 1), (24, .getfield 15, 3), (27, .iconst 0, 1), (28, .aload_n 0, 1), (29, .getfield 15, 3), (32, .iconst 0, 1), (33, .bipush 8, 2), (35, .invokestatic 25, 3), (38, .aload_n 1, 1), (39, .getfield 18, 3), (42, .iconst 0, 1), (43, .aload_n 0, 1), (44, .getfield 18, 3), (47, .iconst 0, 1), (48, .bipush 8, 2), (50, .invokestatic 25, 3), (53, .return_, 1)]
theorem dlk_X2_copyFrom : tvDl cX2_copyFrom dl_X2_copyFrom = true := by decide +kernel
theorem dk_X2_copyFrom_0 : tvD cX2_copyFrom 0 (.aload_n 0) 1 1 := tvDl_get dlk_X2_copyFrom 0 rfl rfl
theorem dk_X2_copyFrom_1 : tvD cX2_copyFrom 1 (.aload_n 1) 1 2 := tvDl_get dlk_X2_copyFrom 1 rfl rfl
theorem dk_X2_copyFrom_2 : tvD cX2_copyFrom 2 (.getfield 21) 3 5 := tvDl_get dlk_X2_copyFrom 2 rfl rfl
theorem dk_X2_copyFrom_5 : tvD cX2_copyFrom 5 (.putfield 21) 3 8 := tvDl_get dlk_X2_copyFrom 3 rfl rfl
theorem dk_X2_copyFrom_8 : tvD cX2_copyFrom 8 (.aload_n 1) 1 9 := tvDl_get dlk_X2_copyFrom 4 rfl rfl
theorem dk_X2_copyFrom_9 : tvD cX2_copyFrom 9 (.getfield 9) 3 12 := tvDl_get dlk_X2_copyFrom 5 rfl rfl
theorem dk_X2_copyFrom_12 : tvD cX2_copyFrom 12 (.iconst 0) 1 13 := tvDl_get dlk_X2_copyFrom 6 rfl rfl
theorem dk_X2_copyFrom_13 : tvD cX2_copyFrom 13 (.aload_n 0) 1 14 := tvDl_get dlk_X2_copyFrom 7 rfl rfl
theorem dk_X2_copyFrom_14 : tvD cX2_copyFrom 14 (.getfield 9) 3 17 := tvDl_get dlk_X2_copyFrom 8 rfl rfl
theorem dk_X2_copyFrom_17 : tvD cX2_copyFrom 17 (.iconst 0) 1 18 := tvDl_get dlk_X2_copyFrom 9 rfl rfl
theorem dk_X2_copyFrom_18 : tvD cX2_copyFrom 18 (.bipush 8) 2 20 := tvDl_get dlk_X2_copyFrom 10 rfl rfl
theorem dk_X2_copyFrom_20 : tvD cX2_copyFrom 20 (.invokestatic 25) 3 23 := tvDl_get dlk_X2_copyFrom 11 rfl rfl
theorem dk_X2_copyFrom_23 : tvD cX2_copyFrom 23 (.aload_n 1) 1 24 := tvDl_get dlk_X2_copyFrom 12 rfl rfl
theorem dk_X2_copyFrom_24 : tvD cX2_copyFrom 24 (.getfield 15) 3 27 := tvDl_get dlk_X2_copyFrom 13 rfl rfl
theorem dk_X2_copyFrom_27 : tvD cX2_copyFrom 27 (.iconst 0) 1 28 := tvDl_get dlk_X2_copyFrom 14 rfl rfl
theorem dk_X2_copyFrom_28 : tvD cX2_copyFrom 28 (.aload_n 0) 1 29 := tvDl_get dlk_X2_copyFrom 15 rfl rfl
theorem dk_X2_copyFrom_29 : tvD cX2_copyFrom 29 (.getfield 15) 3 32 := tvDl_get dlk_X2_copyFrom 16 rfl rfl
theorem dk_X2_copyFrom_32 : tvD cX2_copyFrom 32 (.iconst 0) 1 33 := tvDl_get dlk_X2_copyFrom 17 rfl rfl
theorem dk_X2_copyFrom_33 : tvD cX2_copyFrom 33 (.bipush 8) 2 35 := tvDl_get dlk_X2_copyFrom 18 rfl rfl
theorem dk_X2_copyFrom_35 : tvD cX2_copyFrom 35 (.invokestatic 25) 3 38 := tvDl_get dlk_X2_copyFrom 19 rfl rfl
theorem dk_X2_copyFrom_38 : tvD cX2_copyFrom 38 (.aload_n 1) 1 39 := tvDl_get dlk_X2_copyFrom 20 rfl rfl
theorem dk_X2_copyFrom_39 : tvD cX2_copyFrom 39 (.getfield 18) 3 42 := tvDl_get dlk_X2_copyFrom 21 rfl rfl
theorem dk_X2_copyFrom_42 : tvD cX2_copyFrom 42 (.iconst 0) 1 43 := tvDl_get dlk_X2_copyFrom 22 rfl rfl
theorem dk_X2_copyFrom_43 : tvD cX2_copyFrom 43 (.aload_n 0) 1 44 := tvDl_get dlk_X2_copyFrom 23 rfl rfl
theorem dk_X2_copyFrom_44 : tvD cX2_copyFrom 44 (.getfield 18) 3 47 := tvDl_get dlk_X2_copyFrom 24 rfl rfl
theorem dk_X2_copyFrom_47 : tvD cX2_copyFrom 47 (.iconst 0) 1 48 := tvDl_get dlk_X2_copyFrom 25 rfl rfl
theorem dk_X2_copyFrom_48 : tvD cX2_copyFrom 48 (.bipush 8) 2 50 := tvDl_get dlk_X2_copyFrom 26 rfl rfl
theorem dk_X2_copyFrom_50 : tvD cX2_copyFrom 50 (.invokestatic 25) 3 53 := tvDl_get dlk_X2_copyFrom 27 rfl rfl
theorem dk_X2_copyFrom_53 : tvD cX2_copyFrom 53 (.return_) 1 54 := tvDl_get dlk_X2_copyFrom 28 rfl rfl
def dl_X2_has : List (Nat × Instr × Nat) := [(0, .iload_n 1, 1), (1, .ifCond .lt 21, 3), (4, .iload_n 1, 1), (5, .aload_n 0, 1), (6, .getfield 21, 3), (9, .if_icmp .ge 13, 3), (12, .iload_n 1, 1), (13, .bipush 8, 2), (15, .if_icmp .ge 7, 3), (18, .iconst 1, 1), (19, .goto 4, 3), (22, .iconst 0, 1), (23, .ireturn, 1)]
theorem dlk_X2_has : tvDl cX2_has dl_X2_has = true := by decide +kernel
theorem dk_X2_has_0 : tvD cX2_has 0 (.iload_n 1) 1 1 := tvDl_get dlk_X2_has 0 rfl rfl
theorem dk_X2_has_1 : tvJ cX2_has 1 (.ifCond .lt) 22 4 := tvJl_get dlk_X2_has 1 rfl (by decide) rfl
theorem dk_X2_has_4 : tvD cX2_has 4 (.iload_n 1) 1 5 := tvDl_get dlk_X2_has 2 rfl rfl
theorem dk_X2_has_5 : tvD cX2_has 5 (.aload_n 0) 1 6 := tvDl_get dlk_X2_has 3 rfl rfl
theorem dk_X2_has_6 : tvD cX2_has 6 (.getfield 21) 3 9 := tvDl_get dlk_X2_has 4 rfl rfl
theorem dk_X2_has_9 : tvJ cX2_has 9 (.if_icmp .ge) 22 12 := tvJl_get dlk_X2_has 5 rfl (by decide) rfl
theorem dk_X2_has_12 : tvD cX2_has 12 (.iload_n 1) 1 13 := tvDl_get dlk_X2_has 6 rfl rfl
theorem dk_X2_has_13 : tvD cX2_has 13 (.bipush 8) 2 15 := tvDl_get dlk_X2_has 7 rfl rfl
theorem dk_X2_has_15 : tvJ cX2_has 15 (.if_icmp .ge) 22 18 := tvJl_get dlk_X2_has 8 rfl (by decide) rfl
theorem dk_X2_has_18 : tvD cX2_has 18 (.iconst 1) 1 19 := tvDl_get dlk_X2_has 9 rfl rfl
theorem dk_X2_has_19 : tvJ cX2_has 19 .goto 23 22 := tvJl_get dlk_X2_has 10 rfl (by decide) rfl
theorem dk_X2_has_22 : tvD cX2_has 22 (.iconst 0) 1 23 := tvDl_get dlk_X2_has 11 rfl rfl
theorem dk_X2_has_23 : tvD cX2_has 23 (.ireturn) 1 24 := tvDl_get dlk_X2_has 12 rfl rfl
def dl_X2_lock : List (Nat × Instr × Nat) := [(0, .aload_n 0, 1), (1, .iload_n 1, 1), (2, .invokevirtual 31, 3), (5, .ifCond .eq 10, 3), (8, .aload_n 0, 1), (9, .getfield 18, 3), (12, .iload_n 1, 1), (13, .iload_n 2, 1), (14, .iastore, 1), (15, .return_, 1)]
theorem dlk_X2_lock : tvDl cX2_lock dl_X2_lock = true := by decide +kernel
theorem dk_X2_lock_0 : tvD cX2_lock 0 (.aload_n 0) 1 1 := tvDl_get dlk_X2_lock 0 rfl rfl
theorem dk_X2_lock_1 : tvD cX2_lock 1 (.iload_n 1) 1 2 := tvDl_get dlk_X2_lock 1 rfl rfl
theorem dk_X2_lock_2 : tvD cX2_lock 2 (.invokevirtual 31) 3 5 := tvDl_get dlk_X2_lock 2 rfl rfl
theorem dk_X2_lock_5 : tvJ cX2_lock 5 (.ifCond .eq) 15 8 := tvJl_get dlk_X2_lock 3 rfl (by decide) rfl
theorem dk_X2_lock_8 : tvD cX2_lock 8 (.aload_n 0) 1 9 := tvDl_get dlk_X2_lock 4 rfl rfl
theorem dk_X2_lock_9 : tvD cX2_lock 9 (.getfield 18) 3 12 := tvDl_get dlk_X2_lock 5 rfl rfl
theorem dk_X2_lock_12 : tvD cX2_lock 12 (.iload_n 1) 1 13 := tvDl_get dlk_X2_lock 6 rfl rfl
theorem dk_X2_lock_13 : tvD cX2_lock 13 (.iload_n 2) 1 14 := tvDl_get dlk_X2_lock 7 rfl rfl
theorem dk_X2_lock_14 : tvD cX2_lock 14 (.iastore) 1 15 := tvDl_get dlk_X2_lock 8 rfl rfl
theorem dk_X2_lock_15 : tvD cX2_lock 15 (.return_) 1 16 := tvDl_get dlk_X2_lock 9 rfl rfl
def dl_X2_lockedFor : List (Nat × Instr × Nat) := [(0, .aload_n 0, 1), (1, .iload_n 1, 1), (2, .invokevirtual 31, 3), (5, .ifCond .eq 18, 3), (8, .aload_n 0, 1), (9, .getfield 18, 3), (12, .iload_n 1, 1), (13, .iaload, 1), (14, .iload_n 2, 1), (15, .isub, 1), (16, .iconst 0, 1), (17, .invokestatic 35, 3), (20, .goto 4, 3), (23, .iconst 0, 1), (24, .ireturn, 1)]
theorem dlk_X2_lockedFor : tvDl cX2_lockedFor dl_X2_lockedFor = true := by decide +kernel
theorem dk_X2_lockedFor_0 : tvD cX2_lockedFor 0 (.aload_n 0) 1 1 := tvDl_get dlk_X2_lockedFor 0 rfl rfl
theorem dk_X2_lockedFor_1 : tvD cX2_lockedFor 1 (.iload_n 1) 1 2 := tvDl_get dlk_X2_lockedFor 1 rfl rfl
theorem dk_X2_lockedFor_2 : tvD cX2_lockedFor 2 (.invokevirtual 31) 3 5 := tvDl_get dlk_X2_lockedFor 2 rfl rfl
theorem dk_X2_lockedFor_5 : tvJ cX2_lockedFor 5 (.ifCond .eq) 23 8 := tvJl_get dlk_X2_lockedFor 3 rfl (by decide) rfl
theorem dk_X2_lockedFor_8 : tvD cX2_lockedFor 8 (.aload_n 0) 1 9 := tvDl_get dlk_X2_lockedFor 4 rfl rfl
theorem dk_X2_lockedFor_9 : tvD cX2_lockedFor 9 (.getfield 18) 3 12 := tvDl_get dlk_X2_lockedFor 5 rfl rfl
theorem dk_X2_lockedFor_12 : tvD cX2_lockedFor 12 (.iload_n 1) 1 13 := tvDl_get dlk_X2_lockedFor 6 rfl rfl
theorem dk_X2_lockedFor_13 : tvD cX2_lockedFor 13 (.iaload) 1 14 := tvDl_get dlk_X2_lockedFor 7 rfl rfl
theorem dk_X2_lockedFor_14 : tvD cX2_lockedFor 14 (.iload_n 2) 1 15 := tvDl_get dlk_X2_lockedFor 8 rfl rfl
theorem dk_X2_lockedFor_15 : tvD cX2_lockedFor 15 (.isub) 1 16 := tvDl_get dlk_X2_lockedFor 9 rfl rfl
theorem dk_X2_lockedFor_16 : tvD cX2_lockedFor 16 (.iconst 0) 1 17 := tvDl_get dlk_X2_lockedFor 10 rfl rfl
theorem dk_X2_lockedFor_17 : tvD cX2_lockedFor 17 (.invokestatic 35) 3 20 := tvDl_get dlk_X2_lockedFor 11 rfl rfl
theorem dk_X2_lockedFor_20 : tvJ cX2_lockedFor 20 .goto 24 23 := tvJl_get dlk_X2_lockedFor 12 rfl (by decide) rfl
theorem dk_X2_lockedFor_23 : tvD cX2_lockedFor 23 (.iconst 0) 1 24 := tvDl_get dlk_X2_lockedFor 13 rfl rfl
theorem dk_X2_lockedFor_24 : tvD cX2_lockedFor 24 (.ireturn) 1 25 := tvDl_get dlk_X2_lockedFor 14 rfl rfl
def dl_X2_setAttempts : List (Nat × Instr × Nat) := [(0, .aload_n 0, 1), (1, .iload_n 1, 1), (2, .invokevirtual 31, 3), (5, .ifCond .eq 10, 3), (8, .aload_n 0, 1), (9, .getfield 15, 3), (12, .iload_n 1, 1), (13, .iload_n 2, 1), (14, .iastore, 1), (15, .return_, 1)]
theorem dlk_X2_setAttempts : tvDl cX2_setAttempts dl_X2_setAttempts = true := by decide +kernel
theorem dk_X2_setAttempts_0 : tvD cX2_setAttempts 0 (.aload_n 0) 1 1 := tvDl_get dlk_X2_setAttempts 0 rfl rfl
theorem dk_X2_setAttempts_1 : tvD cX2_setAttempts 1 (.iload_n 1) 1 2 := tvDl_get dlk_X2_setAttempts 1 rfl rfl
theorem dk_X2_setAttempts_2 : tvD cX2_setAttempts 2 (.invokevirtual 31) 3 5 := tvDl_get dlk_X2_setAttempts 2 rfl rfl
theorem dk_X2_setAttempts_5 : tvJ cX2_setAttempts 5 (.ifCond .eq) 15 8 := tvJl_get dlk_X2_setAttempts 3 rfl (by decide) rfl
theorem dk_X2_setAttempts_8 : tvD cX2_setAttempts 8 (.aload_n 0) 1 9 := tvDl_get dlk_X2_setAttempts 4 rfl rfl
theorem dk_X2_setAttempts_9 : tvD cX2_setAttempts 9 (.getfield 15) 3 12 := tvDl_get dlk_X2_setAttempts 5 rfl rfl
theorem dk_X2_setAttempts_12 : tvD cX2_setAttempts 12 (.iload_n 1) 1 13 := tvDl_get dlk_X2_setAttempts 6 rfl rfl
theorem dk_X2_setAttempts_13 : tvD cX2_setAttempts 13 (.iload_n 2) 1 14 := tvDl_get dlk_X2_setAttempts 7 rfl rfl
theorem dk_X2_setAttempts_14 : tvD cX2_setAttempts 14 (.iastore) 1 15 := tvDl_get dlk_X2_setAttempts 8 rfl rfl
theorem dk_X2_setAttempts_15 : tvD cX2_setAttempts 15 (.return_) 1 16 := tvDl_get dlk_X2_setAttempts 9 rfl rfl
def dl_X2_setCode : List (Nat × Instr × Nat) := [(0, .aload_n 0, 1), (1, .iload_n 1, 1), (2, .invokevirtual 31, 3), (5, .ifCond .eq 10, 3), (8, .aload_n 0, 1), (9, .getfield 9, 3), (12, .iload_n 1, 1), (13, .iload_n 2, 1), (14, .iastore, 1), (15, .return_, 1)]
theorem dlk_X2_setCode : tvDl cX2_setCode dl_X2_setCode = true := by decide +kernel
theorem dk_X2_setCode_0 : tvD cX2_setCode 0 (.aload_n 0) 1 1 := tvDl_get dlk_X2_setCode 0 rfl rfl
theorem dk_X2_setCode_1 : tvD cX2_setCode 1 (.iload_n 1) 1 2 := tvDl_get dlk_X2_setCode 1 rfl rfl
theorem dk_X2_setCode_2 : tvD cX2_setCode 2 (.invokevirtual 31) 3 5 := tvDl_get dlk_X2_setCode 2 rfl rfl
theorem dk_X2_setCode_5 : tvJ cX2_setCode 5 (.ifCond .eq) 15 8 := tvJl_get dlk_X2_setCode 3 rfl (by decide) rfl
theorem dk_X2_setCode_8 : tvD cX2_setCode 8 (.aload_n 0) 1 9 := tvDl_get dlk_X2_setCode 4 rfl rfl
theorem dk_X2_setCode_9 : tvD cX2_setCode 9 (.getfield 9) 3 12 := tvDl_get dlk_X2_setCode 5 rfl rfl
theorem dk_X2_setCode_12 : tvD cX2_setCode 12 (.iload_n 1) 1 13 := tvDl_get dlk_X2_setCode 6 rfl rfl
theorem dk_X2_setCode_13 : tvD cX2_setCode 13 (.iload_n 2) 1 14 := tvDl_get dlk_X2_setCode 7 rfl rfl
theorem dk_X2_setCode_14 : tvD cX2_setCode 14 (.iastore) 1 15 := tvDl_get dlk_X2_setCode 8 rfl rfl
theorem dk_X2_setCode_15 : tvD cX2_setCode 15 (.return_) 1 16 := tvDl_get dlk_X2_setCode 9 rfl rfl
def dl_X4_add : List (Nat × Instr × Nat) := [(0, .aload_n 0, 1), (1, .aload_n 0, 1), (2, .getfield 26, 3), (5, .invokevirtual 35, 3), (8, .istore 4, 2), (10, .aload_n 0, 1), (11, .getfield 9, 3), (14, .iload 4, 2), (16, .iload_n 1, 1), (17, .castore, 1), (18, .aload_n 0, 1), (19, .getfield 15, 3), (22, .iload 4, 2), (24, .iload_n 2, 1), (25, .iastore, 1), (26, .aload_n 0, 1), (27, .getfield 19, 3), (30, .iload 4, 2), (32, .iload_n 3, 1), (33, .iastore, 1), (34, .aload_n 0, 1), (35, .getfield 26, 3), (38, .bipush 12, 2), (40, .if_icmp .ge 16, 3), (43, .aload_n 0, 1), (44, .dup, 1), (45, .getfield 26, 3), (48, .iconst 1, 1), (49, .iadd, 1), (50, .putfield 26, 3), (53, .goto 12, 3), (56, .aload_n 0, 1), (57, .aload_n 0, 1), (58, .iconst 1, 1), (59, .invokevirtual 35, 3), (62, .putfield 22, 3), (65, .return_, 1)]
theorem dlk_X4_add : tvDl cX4_add dl_X4_add = true := by decide +kernel
theorem dk_X4_add_0 : tvD cX4_add 0 (.aload_n 0) 1 1 := tvDl_get dlk_X4_add 0 rfl rfl
theorem dk_X4_add_1 : tvD cX4_add 1 (.aload_n 0) 1 2 := tvDl_get dlk_X4_add 1 rfl rfl
theorem dk_X4_add_2 : tvD cX4_add 2 (.getfield 26) 3 5 := tvDl_get dlk_X4_add 2 rfl rfl
theorem dk_X4_add_5 : tvD cX4_add 5 (.invokevirtual 35) 3 8 := tvDl_get dlk_X4_add 3 rfl rfl
theorem dk_X4_add_8 : tvD cX4_add 8 (.istore 4) 2 10 := tvDl_get dlk_X4_add 4 rfl rfl
theorem dk_X4_add_10 : tvD cX4_add 10 (.aload_n 0) 1 11 := tvDl_get dlk_X4_add 5 rfl rfl
theorem dk_X4_add_11 : tvD cX4_add 11 (.getfield 9) 3 14 := tvDl_get dlk_X4_add 6 rfl rfl
theorem dk_X4_add_14 : tvD cX4_add 14 (.iload 4) 2 16 := tvDl_get dlk_X4_add 7 rfl rfl
theorem dk_X4_add_16 : tvD cX4_add 16 (.iload_n 1) 1 17 := tvDl_get dlk_X4_add 8 rfl rfl
theorem dk_X4_add_17 : tvD cX4_add 17 (.castore) 1 18 := tvDl_get dlk_X4_add 9 rfl rfl
theorem dk_X4_add_18 : tvD cX4_add 18 (.aload_n 0) 1 19 := tvDl_get dlk_X4_add 10 rfl rfl
theorem dk_X4_add_19 : tvD cX4_add 19 (.getfield 15) 3 22 := tvDl_get dlk_X4_add 11 rfl rfl
theorem dk_X4_add_22 : tvD cX4_add 22 (.iload 4) 2 24 := tvDl_get dlk_X4_add 12 rfl rfl
theorem dk_X4_add_24 : tvD cX4_add 24 (.iload_n 2) 1 25 := tvDl_get dlk_X4_add 13 rfl rfl
theorem dk_X4_add_25 : tvD cX4_add 25 (.iastore) 1 26 := tvDl_get dlk_X4_add 14 rfl rfl
theorem dk_X4_add_26 : tvD cX4_add 26 (.aload_n 0) 1 27 := tvDl_get dlk_X4_add 15 rfl rfl
theorem dk_X4_add_27 : tvD cX4_add 27 (.getfield 19) 3 30 := tvDl_get dlk_X4_add 16 rfl rfl
theorem dk_X4_add_30 : tvD cX4_add 30 (.iload 4) 2 32 := tvDl_get dlk_X4_add 17 rfl rfl
theorem dk_X4_add_32 : tvD cX4_add 32 (.iload_n 3) 1 33 := tvDl_get dlk_X4_add 18 rfl rfl
theorem dk_X4_add_33 : tvD cX4_add 33 (.iastore) 1 34 := tvDl_get dlk_X4_add 19 rfl rfl
theorem dk_X4_add_34 : tvD cX4_add 34 (.aload_n 0) 1 35 := tvDl_get dlk_X4_add 20 rfl rfl
theorem dk_X4_add_35 : tvD cX4_add 35 (.getfield 26) 3 38 := tvDl_get dlk_X4_add 21 rfl rfl
theorem dk_X4_add_38 : tvD cX4_add 38 (.bipush 12) 2 40 := tvDl_get dlk_X4_add 22 rfl rfl
theorem dk_X4_add_40 : tvJ cX4_add 40 (.if_icmp .ge) 56 43 := tvJl_get dlk_X4_add 23 rfl (by decide) rfl
theorem dk_X4_add_43 : tvD cX4_add 43 (.aload_n 0) 1 44 := tvDl_get dlk_X4_add 24 rfl rfl
theorem dk_X4_add_44 : tvD cX4_add 44 (.dup) 1 45 := tvDl_get dlk_X4_add 25 rfl rfl
theorem dk_X4_add_45 : tvD cX4_add 45 (.getfield 26) 3 48 := tvDl_get dlk_X4_add 26 rfl rfl
theorem dk_X4_add_48 : tvD cX4_add 48 (.iconst 1) 1 49 := tvDl_get dlk_X4_add 27 rfl rfl
theorem dk_X4_add_49 : tvD cX4_add 49 (.iadd) 1 50 := tvDl_get dlk_X4_add 28 rfl rfl
theorem dk_X4_add_50 : tvD cX4_add 50 (.putfield 26) 3 53 := tvDl_get dlk_X4_add 29 rfl rfl
theorem dk_X4_add_53 : tvJ cX4_add 53 .goto 65 56 := tvJl_get dlk_X4_add 30 rfl (by decide) rfl
theorem dk_X4_add_56 : tvD cX4_add 56 (.aload_n 0) 1 57 := tvDl_get dlk_X4_add 31 rfl rfl
theorem dk_X4_add_57 : tvD cX4_add 57 (.aload_n 0) 1 58 := tvDl_get dlk_X4_add 32 rfl rfl
theorem dk_X4_add_58 : tvD cX4_add 58 (.iconst 1) 1 59 := tvDl_get dlk_X4_add 33 rfl rfl
theorem dk_X4_add_59 : tvD cX4_add 59 (.invokevirtual 35) 3 62 := tvDl_get dlk_X4_add 34 rfl rfl
theorem dk_X4_add_62 : tvD cX4_add 62 (.putfield 22) 3 65 := tvDl_get dlk_X4_add 35 rfl rfl
theorem dk_X4_add_65 : tvD cX4_add 65 (.return_) 1 66 := tvDl_get dlk_X4_add 36 rfl rfl
def dl_X4_copyFrom : List (Nat × Instr × Nat) := [(0, .aload_n 0, 1), (1, .aload_n 1, 1), (2, .getfield 22, 3), (5, .putfield 22, 3), (8, .aload_n 0, 1), (9, .aload_n 1, 1), (10, .getfield 26, 3), (13, .putfield 26, 3), (16, .aload_n 1, 1), (17, .getfield 9, 3), (20, .iconst 0, 1), (21, .aload_n 0, 1), (22, .getfield 9, 3), (25, .iconst 0, 1), (26, .bipush 12, 2), (28, .invokestatic 29, 3), (31, .aload_n 1, 1), (32, .getfield 15, 3), (35, .iconst 0, 1), (36, .aload_n 0, 1), (37, .getfield 15, 3), (40, .iconst 0, 1), (41, .bipush 12, 2), (43, .invokestatic 29, 3), (46, .aload_n 1, 1), (47, .getfield 19, 3), (50, .iconst 0, 1), (51, .aload_n 0, 1), (52, .getfield 19, 3), (55, .iconst 0, 1), (56, .bipush 12, 2), (58, .invokestatic 29, 3), (61, .return_, 1)]
theorem dlk_X4_copyFrom : tvDl cX4_copyFrom dl_X4_copyFrom = true := by decide +kernel
theorem dk_X4_copyFrom_0 : tvD cX4_copyFrom 0 (.aload_n 0) 1 1 := tvDl_get dlk_X4_copyFrom 0 rfl rfl
theorem dk_X4_copyFrom_1 : tvD cX4_copyFrom 1 (.aload_n 1) 1 2 := tvDl_get dlk_X4_copyFrom 1 rfl rfl
theorem dk_X4_copyFrom_2 : tvD cX4_copyFrom 2 (.getfield 22) 3 5 := tvDl_get dlk_X4_copyFrom 2 rfl rfl
theorem dk_X4_copyFrom_5 : tvD cX4_copyFrom 5 (.putfield 22) 3 8 := tvDl_get dlk_X4_copyFrom 3 rfl rfl
theorem dk_X4_copyFrom_8 : tvD cX4_copyFrom 8 (.aload_n 0) 1 9 := tvDl_get dlk_X4_copyFrom 4 rfl rfl
theorem dk_X4_copyFrom_9 : tvD cX4_copyFrom 9 (.aload_n 1) 1 10 := tvDl_get dlk_X4_copyFrom 5 rfl rfl
theorem dk_X4_copyFrom_10 : tvD cX4_copyFrom 10 (.getfield 26) 3 13 := tvDl_get dlk_X4_copyFrom 6 rfl rfl
theorem dk_X4_copyFrom_13 : tvD cX4_copyFrom 13 (.putfield 26) 3 16 := tvDl_get dlk_X4_copyFrom 7 rfl rfl
theorem dk_X4_copyFrom_16 : tvD cX4_copyFrom 16 (.aload_n 1) 1 17 := tvDl_get dlk_X4_copyFrom 8 rfl rfl
theorem dk_X4_copyFrom_17 : tvD cX4_copyFrom 17 (.getfield 9) 3 20 := tvDl_get dlk_X4_copyFrom 9 rfl rfl
theorem dk_X4_copyFrom_20 : tvD cX4_copyFrom 20 (.iconst 0) 1 21 := tvDl_get dlk_X4_copyFrom 10 rfl rfl
theorem dk_X4_copyFrom_21 : tvD cX4_copyFrom 21 (.aload_n 0) 1 22 := tvDl_get dlk_X4_copyFrom 11 rfl rfl
theorem dk_X4_copyFrom_22 : tvD cX4_copyFrom 22 (.getfield 9) 3 25 := tvDl_get dlk_X4_copyFrom 12 rfl rfl
theorem dk_X4_copyFrom_25 : tvD cX4_copyFrom 25 (.iconst 0) 1 26 := tvDl_get dlk_X4_copyFrom 13 rfl rfl
theorem dk_X4_copyFrom_26 : tvD cX4_copyFrom 26 (.bipush 12) 2 28 := tvDl_get dlk_X4_copyFrom 14 rfl rfl
theorem dk_X4_copyFrom_28 : tvD cX4_copyFrom 28 (.invokestatic 29) 3 31 := tvDl_get dlk_X4_copyFrom 15 rfl rfl
theorem dk_X4_copyFrom_31 : tvD cX4_copyFrom 31 (.aload_n 1) 1 32 := tvDl_get dlk_X4_copyFrom 16 rfl rfl
theorem dk_X4_copyFrom_32 : tvD cX4_copyFrom 32 (.getfield 15) 3 35 := tvDl_get dlk_X4_copyFrom 17 rfl rfl
theorem dk_X4_copyFrom_35 : tvD cX4_copyFrom 35 (.iconst 0) 1 36 := tvDl_get dlk_X4_copyFrom 18 rfl rfl
theorem dk_X4_copyFrom_36 : tvD cX4_copyFrom 36 (.aload_n 0) 1 37 := tvDl_get dlk_X4_copyFrom 19 rfl rfl
theorem dk_X4_copyFrom_37 : tvD cX4_copyFrom 37 (.getfield 15) 3 40 := tvDl_get dlk_X4_copyFrom 20 rfl rfl
theorem dk_X4_copyFrom_40 : tvD cX4_copyFrom 40 (.iconst 0) 1 41 := tvDl_get dlk_X4_copyFrom 21 rfl rfl
theorem dk_X4_copyFrom_41 : tvD cX4_copyFrom 41 (.bipush 12) 2 43 := tvDl_get dlk_X4_copyFrom 22 rfl rfl
theorem dk_X4_copyFrom_43 : tvD cX4_copyFrom 43 (.invokestatic 29) 3 46 := tvDl_get dlk_X4_copyFrom 23 rfl rfl
theorem dk_X4_copyFrom_46 : tvD cX4_copyFrom 46 (.aload_n 1) 1 47 := tvDl_get dlk_X4_copyFrom 24 rfl rfl
theorem dk_X4_copyFrom_47 : tvD cX4_copyFrom 47 (.getfield 19) 3 50 := tvDl_get dlk_X4_copyFrom 25 rfl rfl
theorem dk_X4_copyFrom_50 : tvD cX4_copyFrom 50 (.iconst 0) 1 51 := tvDl_get dlk_X4_copyFrom 26 rfl rfl
theorem dk_X4_copyFrom_51 : tvD cX4_copyFrom 51 (.aload_n 0) 1 52 := tvDl_get dlk_X4_copyFrom 27 rfl rfl
theorem dk_X4_copyFrom_52 : tvD cX4_copyFrom 52 (.getfield 19) 3 55 := tvDl_get dlk_X4_copyFrom 28 rfl rfl
theorem dk_X4_copyFrom_55 : tvD cX4_copyFrom 55 (.iconst 0) 1 56 := tvDl_get dlk_X4_copyFrom 29 rfl rfl
theorem dk_X4_copyFrom_56 : tvD cX4_copyFrom 56 (.bipush 12) 2 58 := tvDl_get dlk_X4_copyFrom 30 rfl rfl
theorem dk_X4_copyFrom_58 : tvD cX4_copyFrom 58 (.invokestatic 29) 3 61 := tvDl_get dlk_X4_copyFrom 31 rfl rfl
theorem dk_X4_copyFrom_61 : tvD cX4_copyFrom 61 (.return_) 1 62 := tvDl_get dlk_X4_copyFrom 32 rfl rfl
def dl_X4_has : List (Nat × Instr × Nat) := [(0, .iload_n 1, 1), (1, .ifCond .lt 15, 3), (4, .iload_n 1, 1), (5, .aload_n 0, 1), (6, .getfield 26, 3), (9, .if_icmp .ge 7, 3), (12, .iconst 1, 1), (13, .goto 4, 3), (16, .iconst 0, 1), (17, .ireturn, 1)]
theorem dlk_X4_has : tvDl cX4_has dl_X4_has = true := by decide +kernel
theorem dk_X4_has_0 : tvD cX4_has 0 (.iload_n 1) 1 1 := tvDl_get dlk_X4_has 0 rfl rfl
theorem dk_X4_has_1 : tvJ cX4_has 1 (.ifCond .lt) 16 4 := tvJl_get dlk_X4_has 1 rfl (by decide) rfl
theorem dk_X4_has_4 : tvD cX4_has 4 (.iload_n 1) 1 5 := tvDl_get dlk_X4_has 2 rfl rfl
theorem dk_X4_has_5 : tvD cX4_has 5 (.aload_n 0) 1 6 := tvDl_get dlk_X4_has 3 rfl rfl
theorem dk_X4_has_6 : tvD cX4_has 6 (.getfield 26) 3 9 := tvDl_get dlk_X4_has 4 rfl rfl
theorem dk_X4_has_9 : tvJ cX4_has 9 (.if_icmp .ge) 16 12 := tvJl_get dlk_X4_has 5 rfl (by decide) rfl
theorem dk_X4_has_12 : tvD cX4_has 12 (.iconst 1) 1 13 := tvDl_get dlk_X4_has 6 rfl rfl
theorem dk_X4_has_13 : tvJ cX4_has 13 .goto 17 16 := tvJl_get dlk_X4_has 7 rfl (by decide) rfl
theorem dk_X4_has_16 : tvD cX4_has 16 (.iconst 0) 1 17 := tvDl_get dlk_X4_has 8 rfl rfl
theorem dk_X4_has_17 : tvD cX4_has 17 (.ireturn) 1 18 := tvDl_get dlk_X4_has 9 rfl rfl
def dl_X4_kindOf : List (Nat × Instr × Nat) := [(0, .aload_n 0, 1), (1, .getfield 9, 3), (4, .aload_n 0, 1), (5, .iload_n 1, 1), (6, .invokevirtual 35, 3), (9, .caload, 1), (10, .ireturn, 1)]
theorem dlk_X4_kindOf : tvDl cX4_kindOf dl_X4_kindOf = true := by decide +kernel
theorem dk_X4_kindOf_0 : tvD cX4_kindOf 0 (.aload_n 0) 1 1 := tvDl_get dlk_X4_kindOf 0 rfl rfl
theorem dk_X4_kindOf_1 : tvD cX4_kindOf 1 (.getfield 9) 3 4 := tvDl_get dlk_X4_kindOf 1 rfl rfl
theorem dk_X4_kindOf_4 : tvD cX4_kindOf 4 (.aload_n 0) 1 5 := tvDl_get dlk_X4_kindOf 2 rfl rfl
theorem dk_X4_kindOf_5 : tvD cX4_kindOf 5 (.iload_n 1) 1 6 := tvDl_get dlk_X4_kindOf 3 rfl rfl
theorem dk_X4_kindOf_6 : tvD cX4_kindOf 6 (.invokevirtual 35) 3 9 := tvDl_get dlk_X4_kindOf 4 rfl rfl
theorem dk_X4_kindOf_9 : tvD cX4_kindOf 9 (.caload) 1 10 := tvDl_get dlk_X4_kindOf 5 rfl rfl
theorem dk_X4_kindOf_10 : tvD cX4_kindOf 10 (.ireturn) 1 11 := tvDl_get dlk_X4_kindOf 6 rfl rfl
def dl_X4_numberOf : List (Nat × Instr × Nat) := [(0, .aload_n 0, 1), (1, .getfield 19, 3), (4, .aload_n 0, 1), (5, .iload_n 1, 1), (6, .invokevirtual 35, 3), (9, .iaload, 1), (10, .ireturn, 1)]
theorem dlk_X4_numberOf : tvDl cX4_numberOf dl_X4_numberOf = true := by decide +kernel
theorem dk_X4_numberOf_0 : tvD cX4_numberOf 0 (.aload_n 0) 1 1 := tvDl_get dlk_X4_numberOf 0 rfl rfl
theorem dk_X4_numberOf_1 : tvD cX4_numberOf 1 (.getfield 19) 3 4 := tvDl_get dlk_X4_numberOf 1 rfl rfl
theorem dk_X4_numberOf_4 : tvD cX4_numberOf 4 (.aload_n 0) 1 5 := tvDl_get dlk_X4_numberOf 2 rfl rfl
theorem dk_X4_numberOf_5 : tvD cX4_numberOf 5 (.iload_n 1) 1 6 := tvDl_get dlk_X4_numberOf 3 rfl rfl
theorem dk_X4_numberOf_6 : tvD cX4_numberOf 6 (.invokevirtual 35) 3 9 := tvDl_get dlk_X4_numberOf 4 rfl rfl
theorem dk_X4_numberOf_9 : tvD cX4_numberOf 9 (.iaload) 1 10 := tvDl_get dlk_X4_numberOf 5 rfl rfl
theorem dk_X4_numberOf_10 : tvD cX4_numberOf 10 (.ireturn) 1 11 := tvDl_get dlk_X4_numberOf 6 rfl rfl
def dl_X4_slotOf : List (Nat × Instr × Nat) := [(0, .aload_n 0, 1), (1, .getfield 22, 3), (4, .iload_n 1, 1), (5, .iadd, 1), (6, .bipush 12, 2), (8, .irem, 1), (9, .istore_n 2, 1), (10, .iload_n 2, 1), (11, .ifCond .ge 7, 3), (14, .iconst 0, 1), (15, .goto 4, 3), (18, .iload_n 2, 1), (19, .ireturn, 1)]
theorem dlk_X4_slotOf : tvDl cX4_slotOf dl_X4_slotOf = true := by decide +kernel
theorem dk_X4_slotOf_0 : tvD cX4_slotOf 0 (.aload_n 0) 1 1 := tvDl_get dlk_X4_slotOf 0 rfl rfl
theorem dk_X4_slotOf_1 : tvD cX4_slotOf 1 (.getfield 22) 3 4 := tvDl_get dlk_X4_slotOf 1 rfl rfl
theorem dk_X4_slotOf_4 : tvD cX4_slotOf 4 (.iload_n 1) 1 5 := tvDl_get dlk_X4_slotOf 2 rfl rfl
theorem dk_X4_slotOf_5 : tvD cX4_slotOf 5 (.iadd) 1 6 := tvDl_get dlk_X4_slotOf 3 rfl rfl
theorem dk_X4_slotOf_6 : tvD cX4_slotOf 6 (.bipush 12) 2 8 := tvDl_get dlk_X4_slotOf 4 rfl rfl
theorem dk_X4_slotOf_8 : tvD cX4_slotOf 8 (.irem) 1 9 := tvDl_get dlk_X4_slotOf 5 rfl rfl
theorem dk_X4_slotOf_9 : tvD cX4_slotOf 9 (.istore_n 2) 1 10 := tvDl_get dlk_X4_slotOf 6 rfl rfl
theorem dk_X4_slotOf_10 : tvD cX4_slotOf 10 (.iload_n 2) 1 11 := tvDl_get dlk_X4_slotOf 7 rfl rfl
theorem dk_X4_slotOf_11 : tvJ cX4_slotOf 11 (.ifCond .ge) 18 14 := tvJl_get dlk_X4_slotOf 8 rfl (by decide) rfl
theorem dk_X4_slotOf_14 : tvD cX4_slotOf 14 (.iconst 0) 1 15 := tvDl_get dlk_X4_slotOf 9 rfl rfl
theorem dk_X4_slotOf_15 : tvJ cX4_slotOf 15 .goto 19 18 := tvJl_get dlk_X4_slotOf 10 rfl (by decide) rfl
theorem dk_X4_slotOf_18 : tvD cX4_slotOf 18 (.iload_n 2) 1 19 := tvDl_get dlk_X4_slotOf 11 rfl rfl
theorem dk_X4_slotOf_19 : tvD cX4_slotOf 19 (.ireturn) 1 20 := tvDl_get dlk_X4_slotOf 12 rfl rfl
def dl_X4_timeOf : List (Nat × Instr × Nat) := [(0, .aload_n 0, 1), (1, .getfield 15, 3), (4, .aload_n 0, 1), (5, .iload_n 1, 1), (6, .invokevirtual 35, 3), (9, .iaload, 1), (10, .ireturn, 1)]
theorem dlk_X4_timeOf : tvDl cX4_timeOf dl_X4_timeOf = true := by decide +kernel
theorem dk_X4_timeOf_0 : tvD cX4_timeOf 0 (.aload_n 0) 1 1 := tvDl_get dlk_X4_timeOf 0 rfl rfl
theorem dk_X4_timeOf_1 : tvD cX4_timeOf 1 (.getfield 15) 3 4 := tvDl_get dlk_X4_timeOf 1 rfl rfl
theorem dk_X4_timeOf_4 : tvD cX4_timeOf 4 (.aload_n 0) 1 5 := tvDl_get dlk_X4_timeOf 2 rfl rfl
theorem dk_X4_timeOf_5 : tvD cX4_timeOf 5 (.iload_n 1) 1 6 := tvDl_get dlk_X4_timeOf 3 rfl rfl
theorem dk_X4_timeOf_6 : tvD cX4_timeOf 6 (.invokevirtual 35) 3 9 := tvDl_get dlk_X4_timeOf 4 rfl rfl
theorem dk_X4_timeOf_9 : tvD cX4_timeOf 9 (.iaload) 1 10 := tvDl_get dlk_X4_timeOf 5 rfl rfl
theorem dk_X4_timeOf_10 : tvD cX4_timeOf 10 (.ireturn) 1 11 := tvDl_get dlk_X4_timeOf 6 rfl rfl
def dl_X7_become : List (Nat × Instr × Nat) := [(0, .aload_n 0, 1), (1, .getfield 7, 3), (4, .istore_n 3, 1), (5, .aload_n 0, 1), (6, .iload_n 1, 1), (7, .putfield 7, 3), (10, .aload_n 0, 1), (11, .iload_n 2, 1), (12, .putfield 13, 3), (15, .iload_n 3, 1), (16, .ireturn, 1)]
theorem dlk_X7_become : tvDl cX7_become dl_X7_become = true := by decide +kernel
theorem dk_X7_become_0 : tvD cX7_become 0 (.aload_n 0) 1 1 := tvDl_get dlk_X7_become 0 rfl rfl
theorem dk_X7_become_1 : tvD cX7_become 1 (.getfield 7) 3 4 := tvDl_get dlk_X7_become 1 rfl rfl
theorem dk_X7_become_4 : tvD cX7_become 4 (.istore_n 3) 1 5 := tvDl_get dlk_X7_become 2 rfl rfl
theorem dk_X7_become_5 : tvD cX7_become 5 (.aload_n 0) 1 6 := tvDl_get dlk_X7_become 3 rfl rfl
theorem dk_X7_become_6 : tvD cX7_become 6 (.iload_n 1) 1 7 := tvDl_get dlk_X7_become 4 rfl rfl
theorem dk_X7_become_7 : tvD cX7_become 7 (.putfield 7) 3 10 := tvDl_get dlk_X7_become 5 rfl rfl
theorem dk_X7_become_10 : tvD cX7_become 10 (.aload_n 0) 1 11 := tvDl_get dlk_X7_become 6 rfl rfl
theorem dk_X7_become_11 : tvD cX7_become 11 (.iload_n 2) 1 12 := tvDl_get dlk_X7_become 7 rfl rfl
theorem dk_X7_become_12 : tvD cX7_become 12 (.putfield 13) 3 15 := tvDl_get dlk_X7_become 8 rfl rfl
theorem dk_X7_become_15 : tvD cX7_become 15 (.iload_n 3) 1 16 := tvDl_get dlk_X7_become 9 rfl rfl
theorem dk_X7_become_16 : tvD cX7_become 16 (.ireturn) 1 17 := tvDl_get dlk_X7_become 10 rfl rfl
def dl_X7_copyFrom : List (Nat × Instr × Nat) := [(0, .aload_n 0, 1), (1, .aload_n 1, 1), (2, .getfield 7, 3), (5, .putfield 7, 3), (8, .aload_n 0, 1), (9, .aload_n 1, 1), (10, .getfield 13, 3), (13, .putfield 13, 3), (16, .return_, 1)]
theorem dlk_X7_copyFrom : tvDl cX7_copyFrom dl_X7_copyFrom = true := by decide +kernel
theorem dk_X7_copyFrom_0 : tvD cX7_copyFrom 0 (.aload_n 0) 1 1 := tvDl_get dlk_X7_copyFrom 0 rfl rfl
theorem dk_X7_copyFrom_1 : tvD cX7_copyFrom 1 (.aload_n 1) 1 2 := tvDl_get dlk_X7_copyFrom 1 rfl rfl
theorem dk_X7_copyFrom_2 : tvD cX7_copyFrom 2 (.getfield 7) 3 5 := tvDl_get dlk_X7_copyFrom 2 rfl rfl
theorem dk_X7_copyFrom_5 : tvD cX7_copyFrom 5 (.putfield 7) 3 8 := tvDl_get dlk_X7_copyFrom 3 rfl rfl
theorem dk_X7_copyFrom_8 : tvD cX7_copyFrom 8 (.aload_n 0) 1 9 := tvDl_get dlk_X7_copyFrom 4 rfl rfl
theorem dk_X7_copyFrom_9 : tvD cX7_copyFrom 9 (.aload_n 1) 1 10 := tvDl_get dlk_X7_copyFrom 5 rfl rfl
theorem dk_X7_copyFrom_10 : tvD cX7_copyFrom 10 (.getfield 13) 3 13 := tvDl_get dlk_X7_copyFrom 6 rfl rfl
theorem dk_X7_copyFrom_13 : tvD cX7_copyFrom 13 (.putfield 13) 3 16 := tvDl_get dlk_X7_copyFrom 7 rfl rfl
theorem dk_X7_copyFrom_16 : tvD cX7_copyFrom 16 (.return_) 1 17 := tvDl_get dlk_X7_copyFrom 8 rfl rfl
def dl_X7_isLowAt : List (Nat × Instr × Nat) := [(0, .aload_n 0, 1), (1, .getfield 7, 3), (4, .ifCond .le 20, 3), (7, .iload_n 1, 1), (8, .aload_n 0, 1), (9, .getfield 7, 3), (12, .irem, 1), (13, .aload_n 0, 1), (14, .getfield 13, 3), (17, .if_icmp .ge 7, 3), (20, .iconst 1, 1), (21, .goto 4, 3), (24, .iconst 0, 1), (25, .ireturn, 1)]
theorem dlk_X7_isLowAt : tvDl cX7_isLowAt dl_X7_isLowAt = true := by decide +kernel
theorem dk_X7_isLowAt_0 : tvD cX7_isLowAt 0 (.aload_n 0) 1 1 := tvDl_get dlk_X7_isLowAt 0 rfl rfl
theorem dk_X7_isLowAt_1 : tvD cX7_isLowAt 1 (.getfield 7) 3 4 := tvDl_get dlk_X7_isLowAt 1 rfl rfl
theorem dk_X7_isLowAt_4 : tvJ cX7_isLowAt 4 (.ifCond .le) 24 7 := tvJl_get dlk_X7_isLowAt 2 rfl (by decide) rfl
theorem dk_X7_isLowAt_7 : tvD cX7_isLowAt 7 (.iload_n 1) 1 8 := tvDl_get dlk_X7_isLowAt 3 rfl rfl
theorem dk_X7_isLowAt_8 : tvD cX7_isLowAt 8 (.aload_n 0) 1 9 := tvDl_get dlk_X7_isLowAt 4 rfl rfl
theorem dk_X7_isLowAt_9 : tvD cX7_isLowAt 9 (.getfield 7) 3 12 := tvDl_get dlk_X7_isLowAt 5 rfl rfl
theorem dk_X7_isLowAt_12 : tvD cX7_isLowAt 12 (.irem) 1 13 := tvDl_get dlk_X7_isLowAt 6 rfl rfl
theorem dk_X7_isLowAt_13 : tvD cX7_isLowAt 13 (.aload_n 0) 1 14 := tvDl_get dlk_X7_isLowAt 7 rfl rfl
theorem dk_X7_isLowAt_14 : tvD cX7_isLowAt 14 (.getfield 13) 3 17 := tvDl_get dlk_X7_isLowAt 8 rfl rfl
theorem dk_X7_isLowAt_17 : tvJ cX7_isLowAt 17 (.if_icmp .ge) 24 20 := tvJl_get dlk_X7_isLowAt 9 rfl (by decide) rfl
theorem dk_X7_isLowAt_20 : tvD cX7_isLowAt 20 (.iconst 1) 1 21 := tvDl_get dlk_X7_isLowAt 10 rfl rfl
theorem dk_X7_isLowAt_21 : tvJ cX7_isLowAt 21 .goto 25 24 := tvJl_get dlk_X7_isLowAt 11 rfl (by decide) rfl
theorem dk_X7_isLowAt_24 : tvD cX7_isLowAt 24 (.iconst 0) 1 25 := tvDl_get dlk_X7_isLowAt 12 rfl rfl
theorem dk_X7_isLowAt_25 : tvD cX7_isLowAt 25 (.ireturn) 1 26 := tvDl_get dlk_X7_isLowAt 13 rfl rfl
def dl_X7_lowBefore : List (Nat × Instr × Nat) := [(0, .aload_n 0, 1), (1, .getfield 7, 3), (4, .ifCond .gt 5, 3), (7, .iconst 0, 1), (8, .ireturn, 1), (9, .iload_n 1, 1), (10, .aload_n 0, 1), (11, .getfield 7, 3), (14, .idiv, 1), (15, .aload_n 0, 1), (16, .getfield 13, 3), (19, .imul, 1), (20, .iload_n 1, 1), (21, .aload_n 0, 1), (22, .getfield 7, 3), (25, .irem, 1), (26, .aload_n 0, 1), (27, .getfield 13, 3), (30, .invokestatic 24, 3), (33, .iadd, 1), (34, .ireturn, 1)]
theorem dlk_X7_lowBefore : tvDl cX7_lowBefore dl_X7_lowBefore = true := by decide +kernel
theorem dk_X7_lowBefore_0 : tvD cX7_lowBefore 0 (.aload_n 0) 1 1 := tvDl_get dlk_X7_lowBefore 0 rfl rfl
theorem dk_X7_lowBefore_1 : tvD cX7_lowBefore 1 (.getfield 7) 3 4 := tvDl_get dlk_X7_lowBefore 1 rfl rfl
theorem dk_X7_lowBefore_4 : tvJ cX7_lowBefore 4 (.ifCond .gt) 9 7 := tvJl_get dlk_X7_lowBefore 2 rfl (by decide) rfl
theorem dk_X7_lowBefore_7 : tvD cX7_lowBefore 7 (.iconst 0) 1 8 := tvDl_get dlk_X7_lowBefore 3 rfl rfl
theorem dk_X7_lowBefore_8 : tvD cX7_lowBefore 8 (.ireturn) 1 9 := tvDl_get dlk_X7_lowBefore 4 rfl rfl
theorem dk_X7_lowBefore_9 : tvD cX7_lowBefore 9 (.iload_n 1) 1 10 := tvDl_get dlk_X7_lowBefore 5 rfl rfl
theorem dk_X7_lowBefore_10 : tvD cX7_lowBefore 10 (.aload_n 0) 1 11 := tvDl_get dlk_X7_lowBefore 6 rfl rfl
theorem dk_X7_lowBefore_11 : tvD cX7_lowBefore 11 (.getfield 7) 3 14 := tvDl_get dlk_X7_lowBefore 7 rfl rfl
theorem dk_X7_lowBefore_14 : tvD cX7_lowBefore 14 (.idiv) 1 15 := tvDl_get dlk_X7_lowBefore 8 rfl rfl
theorem dk_X7_lowBefore_15 : tvD cX7_lowBefore 15 (.aload_n 0) 1 16 := tvDl_get dlk_X7_lowBefore 9 rfl rfl
theorem dk_X7_lowBefore_16 : tvD cX7_lowBefore 16 (.getfield 13) 3 19 := tvDl_get dlk_X7_lowBefore 10 rfl rfl
theorem dk_X7_lowBefore_19 : tvD cX7_lowBefore 19 (.imul) 1 20 := tvDl_get dlk_X7_lowBefore 11 rfl rfl
theorem dk_X7_lowBefore_20 : tvD cX7_lowBefore 20 (.iload_n 1) 1 21 := tvDl_get dlk_X7_lowBefore 12 rfl rfl
theorem dk_X7_lowBefore_21 : tvD cX7_lowBefore 21 (.aload_n 0) 1 22 := tvDl_get dlk_X7_lowBefore 13 rfl rfl
theorem dk_X7_lowBefore_22 : tvD cX7_lowBefore 22 (.getfield 7) 3 25 := tvDl_get dlk_X7_lowBefore 14 rfl rfl
theorem dk_X7_lowBefore_25 : tvD cX7_lowBefore 25 (.irem) 1 26 := tvDl_get dlk_X7_lowBefore 15 rfl rfl
theorem dk_X7_lowBefore_26 : tvD cX7_lowBefore 26 (.aload_n 0) 1 27 := tvDl_get dlk_X7_lowBefore 16 rfl rfl
theorem dk_X7_lowBefore_27 : tvD cX7_lowBefore 27 (.getfield 13) 3 30 := tvDl_get dlk_X7_lowBefore 17 rfl rfl
theorem dk_X7_lowBefore_30 : tvD cX7_lowBefore 30 (.invokestatic 24) 3 33 := tvDl_get dlk_X7_lowBefore 18 rfl rfl
theorem dk_X7_lowBefore_33 : tvD cX7_lowBefore 33 (.iadd) 1 34 := tvDl_get dlk_X7_lowBefore 19 rfl rfl
theorem dk_X7_lowBefore_34 : tvD cX7_lowBefore 34 (.ireturn) 1 35 := tvDl_get dlk_X7_lowBefore 20 rfl rfl
def dl_X7_lowByCounting : List (Nat × Instr × Nat) := [(0, .iconst 0, 1), (1, .istore_n 3, 1), (2, .iconst 0, 1), (3, .istore 4, 2), (5, .iload 4, 2), (7, .iload_n 2, 1), (8, .if_icmp .ge 23, 3), (11, .aload_n 0, 1), (12, .iload_n 1, 1), (13, .iload 4, 2), (15, .iadd, 1), (16, .invokevirtual 20, 3), (19, .ifCond .eq 6, 3), (22, .iinc 3 1, 3), (25, .iinc 4 1, 3), (28, .goto (-23), 3), (31, .iload_n 3, 1), (32, .ireturn, 1)]
theorem dlk_X7_lowByCounting : tvDl cX7_lowByCounting dl_X7_lowByCounting = true := by decide +kernel
theorem dk_X7_lowByCounting_0 : tvD cX7_lowByCounting 0 (.iconst 0) 1 1 := tvDl_get dlk_X7_lowByCounting 0 rfl rfl
theorem dk_X7_lowByCounting_1 : tvD cX7_lowByCounting 1 (.istore_n 3) 1 2 := tvDl_get dlk_X7_lowByCounting 1 rfl rfl
theorem dk_X7_lowByCounting_2 : tvD cX7_lowByCounting 2 (.iconst 0) 1 3 := tvDl_get dlk_X7_lowByCounting 2 rfl rfl
theorem dk_X7_lowByCounting_3 : tvD cX7_lowByCounting 3 (.istore 4) 2 5 := tvDl_get dlk_X7_lowByCounting 3 rfl rfl
theorem dk_X7_lowByCounting_5 : tvD cX7_lowByCounting 5 (.iload 4) 2 7 := tvDl_get dlk_X7_lowByCounting 4 rfl rfl
theorem dk_X7_lowByCounting_7 : tvD cX7_lowByCounting 7 (.iload_n 2) 1 8 := tvDl_get dlk_X7_lowByCounting 5 rfl rfl
theorem dk_X7_lowByCounting_8 : tvJ cX7_lowByCounting 8 (.if_icmp .ge) 31 11 := tvJl_get dlk_X7_lowByCounting 6 rfl (by decide) rfl
theorem dk_X7_lowByCounting_11 : tvD cX7_lowByCounting 11 (.aload_n 0) 1 12 := tvDl_get dlk_X7_lowByCounting 7 rfl rfl
theorem dk_X7_lowByCounting_12 : tvD cX7_lowByCounting 12 (.iload_n 1) 1 13 := tvDl_get dlk_X7_lowByCounting 8 rfl rfl
theorem dk_X7_lowByCounting_13 : tvD cX7_lowByCounting 13 (.iload 4) 2 15 := tvDl_get dlk_X7_lowByCounting 9 rfl rfl
theorem dk_X7_lowByCounting_15 : tvD cX7_lowByCounting 15 (.iadd) 1 16 := tvDl_get dlk_X7_lowByCounting 10 rfl rfl
theorem dk_X7_lowByCounting_16 : tvD cX7_lowByCounting 16 (.invokevirtual 20) 3 19 := tvDl_get dlk_X7_lowByCounting 11 rfl rfl
theorem dk_X7_lowByCounting_19 : tvJ cX7_lowByCounting 19 (.ifCond .eq) 25 22 := tvJl_get dlk_X7_lowByCounting 12 rfl (by decide) rfl
theorem dk_X7_lowByCounting_22 : tvD cX7_lowByCounting 22 (.iinc 3 1) 3 25 := tvDl_get dlk_X7_lowByCounting 13 rfl rfl
theorem dk_X7_lowByCounting_25 : tvD cX7_lowByCounting 25 (.iinc 4 1) 3 28 := tvDl_get dlk_X7_lowByCounting 14 rfl rfl
theorem dk_X7_lowByCounting_28 : tvJ cX7_lowByCounting 28 .goto 5 31 := tvJl_get dlk_X7_lowByCounting 15 rfl (by decide) rfl
theorem dk_X7_lowByCounting_31 : tvD cX7_lowByCounting 31 (.iload_n 3) 1 32 := tvDl_get dlk_X7_lowByCounting 16 rfl rfl
theorem dk_X7_lowByCounting_32 : tvD cX7_lowByCounting 32 (.ireturn) 1 33 := tvDl_get dlk_X7_lowByCounting 17 rfl rfl
def dl_X7_lowByFormula : List (Nat × Instr × Nat) := [(0, .aload_n 0, 1), (1, .iload_n 1, 1), (2, .iload_n 2, 1), (3, .iadd, 1), (4, .invokevirtual 16, 3), (7, .aload_n 0, 1), (8, .iload_n 1, 1), (9, .invokevirtual 16, 3), (12, .isub, 1), (13, .ireturn, 1)]
theorem dlk_X7_lowByFormula : tvDl cX7_lowByFormula dl_X7_lowByFormula = true := by decide +kernel
theorem dk_X7_lowByFormula_0 : tvD cX7_lowByFormula 0 (.aload_n 0) 1 1 := tvDl_get dlk_X7_lowByFormula 0 rfl rfl
theorem dk_X7_lowByFormula_1 : tvD cX7_lowByFormula 1 (.iload_n 1) 1 2 := tvDl_get dlk_X7_lowByFormula 1 rfl rfl
theorem dk_X7_lowByFormula_2 : tvD cX7_lowByFormula 2 (.iload_n 2) 1 3 := tvDl_get dlk_X7_lowByFormula 2 rfl rfl
theorem dk_X7_lowByFormula_3 : tvD cX7_lowByFormula 3 (.iadd) 1 4 := tvDl_get dlk_X7_lowByFormula 3 rfl rfl
theorem dk_X7_lowByFormula_4 : tvD cX7_lowByFormula 4 (.invokevirtual 16) 3 7 := tvDl_get dlk_X7_lowByFormula 4 rfl rfl
theorem dk_X7_lowByFormula_7 : tvD cX7_lowByFormula 7 (.aload_n 0) 1 8 := tvDl_get dlk_X7_lowByFormula 5 rfl rfl
theorem dk_X7_lowByFormula_8 : tvD cX7_lowByFormula 8 (.iload_n 1) 1 9 := tvDl_get dlk_X7_lowByFormula 6 rfl rfl
theorem dk_X7_lowByFormula_9 : tvD cX7_lowByFormula 9 (.invokevirtual 16) 3 12 := tvDl_get dlk_X7_lowByFormula 7 rfl rfl
theorem dk_X7_lowByFormula_12 : tvD cX7_lowByFormula 12 (.isub) 1 13 := tvDl_get dlk_X7_lowByFormula 8 rfl rfl
theorem dk_X7_lowByFormula_13 : tvD cX7_lowByFormula 13 (.ireturn) 1 14 := tvDl_get dlk_X7_lowByFormula 9 rfl rfl
def dl_X8_refuse : List (Nat × Instr × Nat) := [(0, .iload_n 0, 1), (1, .iconst 1, 1), (2, .if_icmp .ne 14, 3), (5, .new 294, 3), (8, .dup, 1), (9, .ldc_w 373, 3), (12, .invokespecial 298, 3), (15, .athrow, 1), (16, .iload_n 0, 1), (17, .iconst 2, 1), (18, .if_icmp .ne 14, 3), (21, .new 179, 3), (24, .dup, 1), (25, .ldc_w 375, 3), (28, .invokespecial 183, 3), (31, .athrow, 1), (32, .iload_n 0, 1), (33, .iconst 3, 1), (34, .if_icmp .ne 14, 3), (37, .new 305, 3), (40, .dup, 1), (41, .ldc_w 377, 3), (44, .invokespecial 309, 3), (47, .athrow, 1), (48, .iload_n 0, 1), (49, .iconst 4, 1), (50, .if_icmp .ne 14, 3), (53, .new 341, 3), (56, .dup, 1), (57, .ldc_w 379, 3), (60, .invokespecial 345, 3), (63, .athrow, 1), (64, .iload_n 0, 1), (65, .iconst 5, 1), (66, .if_icmp .ne 14, 3), (69, .new 215, 3), (72, .dup, 1), (73, .ldc_w 381, 3), (76, .invokespecial 219, 3), (79, .athrow, 1), (80, .return_, 1)]
theorem dlk_X8_refuse : tvDl cX8_refuse dl_X8_refuse = true := by decide +kernel
theorem dk_X8_refuse_0 : tvD cX8_refuse 0 (.iload_n 0) 1 1 := tvDl_get dlk_X8_refuse 0 rfl rfl
theorem dk_X8_refuse_1 : tvD cX8_refuse 1 (.iconst 1) 1 2 := tvDl_get dlk_X8_refuse 1 rfl rfl
theorem dk_X8_refuse_2 : tvJ cX8_refuse 2 (.if_icmp .ne) 16 5 := tvJl_get dlk_X8_refuse 2 rfl (by decide) rfl
theorem dk_X8_refuse_5 : tvD cX8_refuse 5 (.new 294) 3 8 := tvDl_get dlk_X8_refuse 3 rfl rfl
theorem dk_X8_refuse_8 : tvD cX8_refuse 8 (.dup) 1 9 := tvDl_get dlk_X8_refuse 4 rfl rfl
theorem dk_X8_refuse_9 : tvD cX8_refuse 9 (.ldc_w 373) 3 12 := tvDl_get dlk_X8_refuse 5 rfl rfl
theorem dk_X8_refuse_12 : tvD cX8_refuse 12 (.invokespecial 298) 3 15 := tvDl_get dlk_X8_refuse 6 rfl rfl
theorem dk_X8_refuse_15 : tvD cX8_refuse 15 (.athrow) 1 16 := tvDl_get dlk_X8_refuse 7 rfl rfl
theorem dk_X8_refuse_16 : tvD cX8_refuse 16 (.iload_n 0) 1 17 := tvDl_get dlk_X8_refuse 8 rfl rfl
theorem dk_X8_refuse_17 : tvD cX8_refuse 17 (.iconst 2) 1 18 := tvDl_get dlk_X8_refuse 9 rfl rfl
theorem dk_X8_refuse_18 : tvJ cX8_refuse 18 (.if_icmp .ne) 32 21 := tvJl_get dlk_X8_refuse 10 rfl (by decide) rfl
theorem dk_X8_refuse_21 : tvD cX8_refuse 21 (.new 179) 3 24 := tvDl_get dlk_X8_refuse 11 rfl rfl
theorem dk_X8_refuse_24 : tvD cX8_refuse 24 (.dup) 1 25 := tvDl_get dlk_X8_refuse 12 rfl rfl
theorem dk_X8_refuse_25 : tvD cX8_refuse 25 (.ldc_w 375) 3 28 := tvDl_get dlk_X8_refuse 13 rfl rfl
theorem dk_X8_refuse_28 : tvD cX8_refuse 28 (.invokespecial 183) 3 31 := tvDl_get dlk_X8_refuse 14 rfl rfl
theorem dk_X8_refuse_31 : tvD cX8_refuse 31 (.athrow) 1 32 := tvDl_get dlk_X8_refuse 15 rfl rfl
theorem dk_X8_refuse_32 : tvD cX8_refuse 32 (.iload_n 0) 1 33 := tvDl_get dlk_X8_refuse 16 rfl rfl
theorem dk_X8_refuse_33 : tvD cX8_refuse 33 (.iconst 3) 1 34 := tvDl_get dlk_X8_refuse 17 rfl rfl
theorem dk_X8_refuse_34 : tvJ cX8_refuse 34 (.if_icmp .ne) 48 37 := tvJl_get dlk_X8_refuse 18 rfl (by decide) rfl
theorem dk_X8_refuse_37 : tvD cX8_refuse 37 (.new 305) 3 40 := tvDl_get dlk_X8_refuse 19 rfl rfl
theorem dk_X8_refuse_40 : tvD cX8_refuse 40 (.dup) 1 41 := tvDl_get dlk_X8_refuse 20 rfl rfl
theorem dk_X8_refuse_41 : tvD cX8_refuse 41 (.ldc_w 377) 3 44 := tvDl_get dlk_X8_refuse 21 rfl rfl
theorem dk_X8_refuse_44 : tvD cX8_refuse 44 (.invokespecial 309) 3 47 := tvDl_get dlk_X8_refuse 22 rfl rfl
theorem dk_X8_refuse_47 : tvD cX8_refuse 47 (.athrow) 1 48 := tvDl_get dlk_X8_refuse 23 rfl rfl
theorem dk_X8_refuse_48 : tvD cX8_refuse 48 (.iload_n 0) 1 49 := tvDl_get dlk_X8_refuse 24 rfl rfl
theorem dk_X8_refuse_49 : tvD cX8_refuse 49 (.iconst 4) 1 50 := tvDl_get dlk_X8_refuse 25 rfl rfl
theorem dk_X8_refuse_50 : tvJ cX8_refuse 50 (.if_icmp .ne) 64 53 := tvJl_get dlk_X8_refuse 26 rfl (by decide) rfl
theorem dk_X8_refuse_53 : tvD cX8_refuse 53 (.new 341) 3 56 := tvDl_get dlk_X8_refuse 27 rfl rfl
theorem dk_X8_refuse_56 : tvD cX8_refuse 56 (.dup) 1 57 := tvDl_get dlk_X8_refuse 28 rfl rfl
theorem dk_X8_refuse_57 : tvD cX8_refuse 57 (.ldc_w 379) 3 60 := tvDl_get dlk_X8_refuse 29 rfl rfl
theorem dk_X8_refuse_60 : tvD cX8_refuse 60 (.invokespecial 345) 3 63 := tvDl_get dlk_X8_refuse 30 rfl rfl
theorem dk_X8_refuse_63 : tvD cX8_refuse 63 (.athrow) 1 64 := tvDl_get dlk_X8_refuse 31 rfl rfl
theorem dk_X8_refuse_64 : tvD cX8_refuse 64 (.iload_n 0) 1 65 := tvDl_get dlk_X8_refuse 32 rfl rfl
theorem dk_X8_refuse_65 : tvD cX8_refuse 65 (.iconst 5) 1 66 := tvDl_get dlk_X8_refuse 33 rfl rfl
theorem dk_X8_refuse_66 : tvJ cX8_refuse 66 (.if_icmp .ne) 80 69 := tvJl_get dlk_X8_refuse 34 rfl (by decide) rfl
theorem dk_X8_refuse_69 : tvD cX8_refuse 69 (.new 215) 3 72 := tvDl_get dlk_X8_refuse 35 rfl rfl
theorem dk_X8_refuse_72 : tvD cX8_refuse 72 (.dup) 1 73 := tvDl_get dlk_X8_refuse 36 rfl rfl
theorem dk_X8_refuse_73 : tvD cX8_refuse 73 (.ldc_w 381) 3 76 := tvDl_get dlk_X8_refuse 37 rfl rfl
theorem dk_X8_refuse_76 : tvD cX8_refuse 76 (.invokespecial 219) 3 79 := tvDl_get dlk_X8_refuse 38 rfl rfl
theorem dk_X8_refuse_79 : tvD cX8_refuse 79 (.athrow) 1 80 := tvDl_get dlk_X8_refuse 39 rfl rfl
theorem dk_X8_refuse_80 : tvD cX8_refuse 80 (.return_) 1 81 := tvDl_get dlk_X8_refuse 40 rfl rfl
