theorem fl_RX9_22 : tvFl RX9 22 9 6 := ⟨_, _, _, rfl, by decide, rfl, tvIn_9, rfl, Or.inl (tvgc (tvc_6 (List.mem_of_getElem? (i := 164) (by decide +kernel))) rfl)⟩
theorem fl_RX9_26 : tvFl RX9 26 9 7 := ⟨_, _, _, rfl, by decide, rfl, tvIn_9, rfl, Or.inl (tvgc (tvc_6 (List.mem_of_getElem? (i := 165) (by decide +kernel))) rfl)⟩
theorem fl_RX9_29 : tvFl RX9 29 9 11 := ⟨_, _, _, rfl, by decide, rfl, tvIn_9, rfl, Or.inl (tvgc (tvc_6 (List.mem_of_getElem? (i := 169) (by decide +kernel))) rfl)⟩
theorem fl_RX9_32 : tvFl RX9 32 9 13 := ⟨_, _, _, rfl, by decide, rfl, tvIn_9, rfl, Or.inl (tvgc (tvc_6 (List.mem_of_getElem? (i := 171) (by decide +kernel))) rfl)⟩
theorem fl_RX9_38 : tvFl RX9 38 9 5 := ⟨_, _, _, rfl, by decide, rfl, tvIn_9, rfl, Or.inl (tvgc (tvc_6 (List.mem_of_getElem? (i := 163) (by decide +kernel))) rfl)⟩
theorem fl_RX9_187 : tvFl RX9 187 9 12 := ⟨_, _, _, rfl, by decide, rfl, tvIn_9, rfl, Or.inl (tvgc (tvc_6 (List.mem_of_getElem? (i := 170) (by decide +kernel))) rfl)⟩
theorem fl_RX9_196 : tvFl RX9 196 9 15 := ⟨_, _, _, rfl, by decide, rfl, tvIn_9, rfl, Or.inl (tvgc (tvc_6 (List.mem_of_getElem? (i := 173) (by decide +kernel))) rfl)⟩
theorem fl_RX9_199 : tvFl RX9 199 9 16 := ⟨_, _, _, rfl, by decide, rfl, tvIn_9, rfl, Or.inl (tvgc (tvc_6 (List.mem_of_getElem? (i := 174) (by decide +kernel))) rfl)⟩
theorem fl_RX9_269 : tvFl RX9 269 9 10 := ⟨_, _, _, rfl, by decide, rfl, tvIn_9, rfl, Or.inl (tvgc (tvc_6 (List.mem_of_getElem? (i := 168) (by decide +kernel))) rfl)⟩
theorem fw_9_5 : tvFw 9 5 := ⟨_, _, _, rfl, tyX9_ok, nmX9, rfl⟩
theorem fw_9_12 : tvFw 9 12 := ⟨_, _, _, rfl, tyX9_ok, nmX9, rfl⟩
theorem fw_9_15 : tvFw 9 15 := ⟨_, _, _, rfl, tyX9_ok, nmX9, rfl⟩
theorem fw_9_16 : tvFw 9 16 := ⟨_, _, _, rfl, tyX9_ok, nmX9, rfl⟩
theorem ml_RX9_51 : Cond.methodLink RX9 51 yX9_isIn ∈ tvGW := tvgc (tvc_6 (List.mem_of_getElem? (i := 232) (by decide +kernel))) rfl
theorem ml_RX9_55 : Cond.methodLink RX9 55 yX9_of ∈ tvGW := tvgc (tvc_7 (List.mem_of_getElem? (i := 51) (by decide +kernel))) rfl
theorem ml_RX9_59 : Cond.methodLink RX9 59 yX9_ofHolder ∈ tvGW := tvgc (tvc_7 (List.mem_of_getElem? (i := 63) (by decide +kernel))) rfl
theorem ml_RX9_62 : Cond.methodLink RX9 62 yX9_isThrown ∈ tvGW := tvgc (tvc_6 (List.mem_of_getElem? (i := 235) (by decide +kernel))) rfl
theorem ml_RX9_66 : Cond.methodLink RX9 66 yX9_setsHolder ∈ tvGW := tvgc (tvc_6 (List.mem_of_getElem? (i := 239) (by decide +kernel))) rfl
theorem ml_RX9_80 : Cond.methodLink RX9 80 yX9_isHolder ∈ tvGW := tvgc (tvc_7 (List.mem_of_getElem? (i := 19) (by decide +kernel))) rfl
theorem ml_RX9_84 : Cond.methodLink RX9 84 yX9_sets ∈ tvGW := tvgc (tvc_7 (List.mem_of_getElem? (i := 23) (by decide +kernel))) rfl
theorem ml_RX9_104 : Cond.methodLink RX9 104 yJ0_charAt_5068e ∈ tvGW := tvgc (tvc_7 (List.mem_of_getElem? (i := 91) (by decide +kernel))) rfl
theorem ml_RX9_110 : Cond.methodLink RX9 110 yX9_locked ∈ tvGW := tvgc (tvc_7 (List.mem_of_getElem? (i := 59) (by decide +kernel))) rfl
theorem ml_RX9_113 : Cond.methodLink RX9 113 yX9_isBox ∈ tvGW := tvgc (tvc_7 (List.mem_of_getElem? (i := 43) (by decide +kernel))) rfl
theorem ml_RX9_116 : Cond.methodLink RX9 116 yX9_isOf ∈ tvGW := tvgc (tvc_7 (List.mem_of_getElem? (i := 47) (by decide +kernel))) rfl
theorem ml_RX9_126 : Cond.methodLink RX9 126 yX9_low ∈ tvGW := tvgc (tvc_7 (List.mem_of_getElem? (i := 79) (by decide +kernel))) rfl
theorem ml_RX9_132 : Cond.methodLink RX9 132 yX9_sign ∈ tvGW := tvgc (tvc_7 (List.mem_of_getElem? (i := 87) (by decide +kernel))) rfl
theorem ml_RX9_168 : Cond.methodLink RX9 168 yX9_isNotPending ∈ tvGW := tvgc (tvc_7 (List.mem_of_getElem? (i := 205) (by decide +kernel))) rfl
theorem ml_RX9_177 : Cond.methodLink RX9 177 yX9_ofEvent ∈ tvGW := tvgc (tvc_8 (List.mem_of_getElem? (i := 18) (by decide +kernel))) rfl
theorem ml_RX9_202 : Cond.methodLink RX9 202 yX9_now ∈ tvGW := tvgc (tvc_8 (List.mem_of_getElem? (i := 72) (by decide +kernel))) rfl
theorem yk_X9_alarm : tvYk yX9_alarm cX9_alarm 1 (some .int) 0 := ⟨tvgc (tvc_7 (List.mem_of_getElem? (i := 168) (by decide +kernel))) rfl, tvgc (tvc_1 (List.mem_of_getElem? (i := 10) (by decide +kernel))) rfl, by decide +kernel, by decide +kernel, plainFor_of_name (by decide +kernel)⟩
theorem yi_X9_alarm : tvYi yX9_alarm := ⟨tvgc (tvc_7 (List.mem_of_getElem? (i := 166) (by decide +kernel))) rfl, tvgc (tvc_7 (List.mem_of_getElem? (i := 167) (by decide +kernel))) rfl⟩
theorem yk_X9_attempts : tvYk yX9_attempts cX9_attempts 2 (some .int) 1 := ⟨tvgc (tvc_7 (List.mem_of_getElem? (i := 176) (by decide +kernel))) rfl, tvgc (tvc_1 (List.mem_of_getElem? (i := 10) (by decide +kernel))) rfl, by decide +kernel, by decide +kernel, plainFor_of_name (by decide +kernel)⟩
theorem yi_X9_attempts : tvYi yX9_attempts := ⟨tvgc (tvc_7 (List.mem_of_getElem? (i := 174) (by decide +kernel))) rfl, tvgc (tvc_7 (List.mem_of_getElem? (i := 175) (by decide +kernel))) rfl⟩
theorem yk_X9_boxed : tvYk yX9_boxed cX9_boxed 5 (some .int) 3 := ⟨tvgc (tvc_7 (List.mem_of_getElem? (i := 18) (by decide +kernel))) rfl, tvgc (tvc_1 (List.mem_of_getElem? (i := 10) (by decide +kernel))) rfl, by decide +kernel, by decide +kernel, plainFor_of_name (by decide +kernel)⟩
theorem yi_X9_boxed : tvYi yX9_boxed := ⟨tvgc (tvc_7 (List.mem_of_getElem? (i := 17) (by decide +kernel))) rfl, tvg 34 (by decide +kernel) rfl⟩
theorem yk_X9_boxes : tvYk yX9_boxes cX9_boxes 1 (some .int) 0 := ⟨tvgc (tvc_7 (List.mem_of_getElem? (i := 188) (by decide +kernel))) rfl, tvgc (tvc_1 (List.mem_of_getElem? (i := 10) (by decide +kernel))) rfl, by decide +kernel, by decide +kernel, plainFor_of_name (by decide +kernel)⟩
theorem yi_X9_boxes : tvYi yX9_boxes := ⟨tvgc (tvc_7 (List.mem_of_getElem? (i := 186) (by decide +kernel))) rfl, tvgc (tvc_7 (List.mem_of_getElem? (i := 187) (by decide +kernel))) rfl⟩
theorem yk_X9_cannotTurn : tvYk yX9_cannotTurn cX9_cannotTurn 4 (some .boolean) 2 := ⟨tvgc (tvc_7 (List.mem_of_getElem? (i := 58) (by decide +kernel))) rfl, tvgc (tvc_1 (List.mem_of_getElem? (i := 10) (by decide +kernel))) rfl, by decide +kernel, by decide +kernel, plainFor_of_name (by decide +kernel)⟩
theorem yi_X9_cannotTurn : tvYi yX9_cannotTurn := ⟨tvgc (tvc_7 (List.mem_of_getElem? (i := 57) (by decide +kernel))) rfl, tvg 42 (by decide +kernel) rfl⟩
theorem yk_X9_charAt : tvYk yX9_charAt cX9_charAt 2 (some .char) 1 := ⟨tvgc (tvc_8 (List.mem_of_getElem? (i := 55) (by decide +kernel))) rfl, tvgc (tvc_1 (List.mem_of_getElem? (i := 10) (by decide +kernel))) rfl, by decide +kernel, by decide +kernel, plainFor_of_name (by decide +kernel)⟩
theorem yi_X9_charAt : tvYi yX9_charAt := ⟨tvgc (tvc_8 (List.mem_of_getElem? (i := 53) (by decide +kernel))) rfl, tvgc (tvc_8 (List.mem_of_getElem? (i := 54) (by decide +kernel))) rfl⟩
theorem yk_X9_errorPosition : tvYk yX9_errorPosition cX9_errorPosition 1 (some .int) 0 := ⟨tvgc (tvc_8 (List.mem_of_getElem? (i := 127) (by decide +kernel))) rfl, tvgc (tvc_1 (List.mem_of_getElem? (i := 10) (by decide +kernel))) rfl, by decide +kernel, by decide +kernel, plainFor_of_name (by decide +kernel)⟩
theorem yi_X9_errorPosition : tvYi yX9_errorPosition := ⟨tvgc (tvc_8 (List.mem_of_getElem? (i := 125) (by decide +kernel))) rfl, tvgc (tvc_8 (List.mem_of_getElem? (i := 126) (by decide +kernel))) rfl⟩
theorem yk_X9_eventKind : tvYk yX9_eventKind cX9_eventKind 2 (some .char) 1 := ⟨tvgc (tvc_8 (List.mem_of_getElem? (i := 17) (by decide +kernel))) rfl, tvgc (tvc_1 (List.mem_of_getElem? (i := 10) (by decide +kernel))) rfl, by decide +kernel, by decide +kernel, plainFor_of_name (by decide +kernel)⟩
theorem yi_X9_eventKind : tvYi yX9_eventKind := ⟨tvgc (tvc_8 (List.mem_of_getElem? (i := 15) (by decide +kernel))) rfl, tvgc (tvc_8 (List.mem_of_getElem? (i := 16) (by decide +kernel))) rfl⟩
theorem yk_X9_eventNumber : tvYk yX9_eventNumber cX9_eventNumber 2 (some .int) 1 := ⟨tvgc (tvc_8 (List.mem_of_getElem? (i := 29) (by decide +kernel))) rfl, tvgc (tvc_1 (List.mem_of_getElem? (i := 10) (by decide +kernel))) rfl, by decide +kernel, by decide +kernel, plainFor_of_name (by decide +kernel)⟩
theorem yi_X9_eventNumber : tvYi yX9_eventNumber := ⟨tvgc (tvc_8 (List.mem_of_getElem? (i := 27) (by decide +kernel))) rfl, tvgc (tvc_8 (List.mem_of_getElem? (i := 28) (by decide +kernel))) rfl⟩
theorem yk_X9_eventTime : tvYk yX9_eventTime cX9_eventTime 2 (some .int) 1 := ⟨tvgc (tvc_8 (List.mem_of_getElem? (i := 25) (by decide +kernel))) rfl, tvgc (tvc_1 (List.mem_of_getElem? (i := 10) (by decide +kernel))) rfl, by decide +kernel, by decide +kernel, plainFor_of_name (by decide +kernel)⟩
theorem yi_X9_eventTime : tvYi yX9_eventTime := ⟨tvgc (tvc_8 (List.mem_of_getElem? (i := 23) (by decide +kernel))) rfl, tvgc (tvc_8 (List.mem_of_getElem? (i := 24) (by decide +kernel))) rfl⟩
theorem yk_X9_events : tvYk yX9_events cX9_events 1 (some .int) 0 := ⟨tvgc (tvc_8 (List.mem_of_getElem? (i := 13) (by decide +kernel))) rfl, tvgc (tvc_1 (List.mem_of_getElem? (i := 10) (by decide +kernel))) rfl, by decide +kernel, by decide +kernel, plainFor_of_name (by decide +kernel)⟩
theorem yi_X9_events : tvYi yX9_events := ⟨tvgc (tvc_8 (List.mem_of_getElem? (i := 11) (by decide +kernel))) rfl, tvgc (tvc_8 (List.mem_of_getElem? (i := 12) (by decide +kernel))) rfl⟩
theorem yk_X9_failedCommand : tvYk yX9_failedCommand cX9_failedCommand 1 (some .int) 0 := ⟨tvgc (tvc_8 (List.mem_of_getElem? (i := 131) (by decide +kernel))) rfl, tvgc (tvc_1 (List.mem_of_getElem? (i := 10) (by decide +kernel))) rfl, by decide +kernel, by decide +kernel, plainFor_of_name (by decide +kernel)⟩
theorem yi_X9_failedCommand : tvYi yX9_failedCommand := ⟨tvgc (tvc_8 (List.mem_of_getElem? (i := 129) (by decide +kernel))) rfl, tvgc (tvc_8 (List.mem_of_getElem? (i := 130) (by decide +kernel))) rfl⟩
theorem yk_X9_failureRate : tvYk yX9_failureRate cX9_failureRate 1 (some .float) 0 := ⟨tvgc (tvc_8 (List.mem_of_getElem? (i := 9) (by decide +kernel))) rfl, tvgc (tvc_1 (List.mem_of_getElem? (i := 10) (by decide +kernel))) rfl, by decide +kernel, by decide +kernel, plainFor_of_name (by decide +kernel)⟩
theorem yi_X9_failureRate : tvYi yX9_failureRate := ⟨tvgc (tvc_8 (List.mem_of_getElem? (i := 7) (by decide +kernel))) rfl, tvgc (tvc_8 (List.mem_of_getElem? (i := 8) (by decide +kernel))) rfl⟩
theorem yk_X9_firstHolder : tvYk yX9_firstHolder cX9_firstHolder 2 (some .int) 1 := ⟨tvgc (tvc_7 (List.mem_of_getElem? (i := 200) (by decide +kernel))) rfl, tvgc (tvc_1 (List.mem_of_getElem? (i := 10) (by decide +kernel))) rfl, by decide +kernel, by decide +kernel, plainFor_of_name (by decide +kernel)⟩
theorem yi_X9_firstHolder : tvYi yX9_firstHolder := ⟨tvgc (tvc_7 (List.mem_of_getElem? (i := 198) (by decide +kernel))) rfl, tvgc (tvc_7 (List.mem_of_getElem? (i := 199) (by decide +kernel))) rfl⟩
theorem yk_X9_holders : tvYk yX9_holders cX9_holders 1 (some .int) 0 := ⟨tvgc (tvc_7 (List.mem_of_getElem? (i := 172) (by decide +kernel))) rfl, tvgc (tvc_1 (List.mem_of_getElem? (i := 10) (by decide +kernel))) rfl, by decide +kernel, by decide +kernel, plainFor_of_name (by decide +kernel)⟩
theorem yi_X9_holders : tvYi yX9_holders := ⟨tvgc (tvc_7 (List.mem_of_getElem? (i := 170) (by decide +kernel))) rfl, tvgc (tvc_7 (List.mem_of_getElem? (i := 171) (by decide +kernel))) rfl⟩
theorem yk_X9_holds : tvYk yX9_holds cX9_holds 2 (some .int) 1 := ⟨tvgc (tvc_6 (List.mem_of_getElem? (i := 231) (by decide +kernel))) rfl, tvgc (tvc_1 (List.mem_of_getElem? (i := 10) (by decide +kernel))) rfl, by decide +kernel, by decide +kernel, plainFor_of_name (by decide +kernel)⟩
theorem yi_X9_holds : tvYi yX9_holds := ⟨tvgc (tvc_6 (List.mem_of_getElem? (i := 230) (by decide +kernel))) rfl, tvg 29 (by decide +kernel) rfl⟩
theorem yk_X9_isBox : tvYk yX9_isBox cX9_isBox 2 (some .boolean) 1 := ⟨tvgc (tvc_7 (List.mem_of_getElem? (i := 46) (by decide +kernel))) rfl, tvgc (tvc_1 (List.mem_of_getElem? (i := 10) (by decide +kernel))) rfl, by decide +kernel, by decide +kernel, plainFor_of_name (by decide +kernel)⟩
theorem yi_X9_isBox : tvYi yX9_isBox := ⟨tvgc (tvc_7 (List.mem_of_getElem? (i := 45) (by decide +kernel))) rfl, tvg 39 (by decide +kernel) rfl⟩
theorem yk_X9_isFirst : tvYk yX9_isFirst cX9_isFirst 1 (some .boolean) 1 := ⟨tvgc (tvc_8 (List.mem_of_getElem? (i := 78) (by decide +kernel))) rfl, tvgc (tvc_1 (List.mem_of_getElem? (i := 10) (by decide +kernel))) rfl, by decide +kernel, by decide +kernel, plainFor_of_name (by decide +kernel)⟩
theorem yi_X9_isFirst : Cond.static yX9_isFirst ∈ tvGW := tvgc (tvc_8 (List.mem_of_getElem? (i := 77) (by decide +kernel))) rfl
theorem yk_X9_isHolder : tvYk yX9_isHolder cX9_isHolder 2 (some .boolean) 1 := ⟨tvgc (tvc_7 (List.mem_of_getElem? (i := 22) (by decide +kernel))) rfl, tvgc (tvc_1 (List.mem_of_getElem? (i := 10) (by decide +kernel))) rfl, by decide +kernel, by decide +kernel, plainFor_of_name (by decide +kernel)⟩
theorem yi_X9_isHolder : tvYi yX9_isHolder := ⟨tvgc (tvc_7 (List.mem_of_getElem? (i := 21) (by decide +kernel))) rfl, tvg 35 (by decide +kernel) rfl⟩
theorem yk_X9_isIn : tvYk yX9_isIn cX9_isIn 3 (some .boolean) 3 := ⟨tvgc (tvc_6 (List.mem_of_getElem? (i := 234) (by decide +kernel))) rfl, tvgc (tvc_1 (List.mem_of_getElem? (i := 10) (by decide +kernel))) rfl, by decide +kernel, by decide +kernel, plainFor_of_name (by decide +kernel)⟩
theorem yi_X9_isIn : Cond.static yX9_isIn ∈ tvGW := tvgc (tvc_6 (List.mem_of_getElem? (i := 233) (by decide +kernel))) rfl
theorem yk_X9_isLowTide : tvYk yX9_isLowTide cX9_isLowTide 1 (some .boolean) 0 := ⟨tvgc (tvc_7 (List.mem_of_getElem? (i := 155) (by decide +kernel))) rfl, tvgc (tvc_1 (List.mem_of_getElem? (i := 10) (by decide +kernel))) rfl, by decide +kernel, by decide +kernel, plainFor_of_name (by decide +kernel)⟩
theorem yi_X9_isLowTide : tvYi yX9_isLowTide := ⟨tvgc (tvc_7 (List.mem_of_getElem? (i := 153) (by decide +kernel))) rfl, tvgc (tvc_7 (List.mem_of_getElem? (i := 154) (by decide +kernel))) rfl⟩
theorem yk_X9_isNotPending : tvYk yX9_isNotPending cX9_isNotPending 2 (some .boolean) 1 := ⟨tvgc (tvc_7 (List.mem_of_getElem? (i := 208) (by decide +kernel))) rfl, tvgc (tvc_1 (List.mem_of_getElem? (i := 10) (by decide +kernel))) rfl, by decide +kernel, by decide +kernel, plainFor_of_name (by decide +kernel)⟩
theorem yi_X9_isNotPending : tvYi yX9_isNotPending := ⟨tvgc (tvc_7 (List.mem_of_getElem? (i := 207) (by decide +kernel))) rfl, tvg 59 (by decide +kernel) rfl⟩
theorem yk_X9_isOf : tvYk yX9_isOf cX9_isOf 3 (some .boolean) 2 := ⟨tvgc (tvc_7 (List.mem_of_getElem? (i := 50) (by decide +kernel))) rfl, tvgc (tvc_1 (List.mem_of_getElem? (i := 10) (by decide +kernel))) rfl, by decide +kernel, by decide +kernel, plainFor_of_name (by decide +kernel)⟩
theorem yi_X9_isOf : tvYi yX9_isOf := ⟨tvgc (tvc_7 (List.mem_of_getElem? (i := 49) (by decide +kernel))) rfl, tvg 40 (by decide +kernel) rfl⟩
theorem yk_X9_isOver : tvYk yX9_isOver cX9_isOver 3 (some .boolean) 1 := ⟨tvgc (tvc_7 (List.mem_of_getElem? (i := 147) (by decide +kernel))) rfl, tvgc (tvc_1 (List.mem_of_getElem? (i := 10) (by decide +kernel))) rfl, by decide +kernel, by decide +kernel, plainFor_of_name (by decide +kernel)⟩
theorem yi_X9_isOver : tvYi yX9_isOver := ⟨tvgc (tvc_7 (List.mem_of_getElem? (i := 146) (by decide +kernel))) rfl, tvg 58 (by decide +kernel) rfl⟩
theorem yk_X9_isSign : tvYk yX9_isSign cX9_isSign 3 (some .boolean) 1 := ⟨tvgc (tvc_8 (List.mem_of_getElem? (i := 92) (by decide +kernel))) rfl, tvgc (tvc_1 (List.mem_of_getElem? (i := 10) (by decide +kernel))) rfl, by decide +kernel, by decide +kernel, plainFor_of_name (by decide +kernel)⟩
theorem yi_X9_isSign : tvYi yX9_isSign := ⟨tvgc (tvc_8 (List.mem_of_getElem? (i := 91) (by decide +kernel))) rfl, tvg 69 (by decide +kernel) rfl⟩
theorem yk_X9_isThrown : tvYk yX9_isThrown cX9_isThrown 3 (some .boolean) 2 := ⟨tvgc (tvc_6 (List.mem_of_getElem? (i := 238) (by decide +kernel))) rfl, tvgc (tvc_1 (List.mem_of_getElem? (i := 10) (by decide +kernel))) rfl, by decide +kernel, by decide +kernel, plainFor_of_name (by decide +kernel)⟩
theorem yi_X9_isThrown : tvYi yX9_isThrown := ⟨tvgc (tvc_6 (List.mem_of_getElem? (i := 237) (by decide +kernel))) rfl, tvg 30 (by decide +kernel) rfl⟩
theorem yk_X9_locked : tvYk yX9_locked cX9_locked 2 (some .boolean) 1 := ⟨tvgc (tvc_7 (List.mem_of_getElem? (i := 62) (by decide +kernel))) rfl, tvgc (tvc_1 (List.mem_of_getElem? (i := 10) (by decide +kernel))) rfl, by decide +kernel, by decide +kernel, plainFor_of_name (by decide +kernel)⟩
theorem yi_X9_locked : tvYi yX9_locked := ⟨tvgc (tvc_7 (List.mem_of_getElem? (i := 61) (by decide +kernel))) rfl, tvg 43 (by decide +kernel) rfl⟩
theorem yk_X9_low : tvYk yX9_low cX9_low 2 (some .boolean) 1 := ⟨tvgc (tvc_7 (List.mem_of_getElem? (i := 82) (by decide +kernel))) rfl, tvgc (tvc_1 (List.mem_of_getElem? (i := 10) (by decide +kernel))) rfl, by decide +kernel, by decide +kernel, plainFor_of_name (by decide +kernel)⟩
theorem yi_X9_low : tvYi yX9_low := ⟨tvgc (tvc_7 (List.mem_of_getElem? (i := 81) (by decide +kernel))) rfl, tvg 48 (by decide +kernel) rfl⟩
theorem yk_X9_minutesLocked : tvYk yX9_minutesLocked cX9_minutesLocked 2 (some .int) 1 := ⟨tvgc (tvc_7 (List.mem_of_getElem? (i := 180) (by decide +kernel))) rfl, tvgc (tvc_1 (List.mem_of_getElem? (i := 10) (by decide +kernel))) rfl, by decide +kernel, by decide +kernel, plainFor_of_name (by decide +kernel)⟩
theorem yi_X9_minutesLocked : tvYi yX9_minutesLocked := ⟨tvgc (tvc_7 (List.mem_of_getElem? (i := 178) (by decide +kernel))) rfl, tvgc (tvc_7 (List.mem_of_getElem? (i := 179) (by decide +kernel))) rfl⟩
theorem yk_X9_now : tvYk yX9_now cX9_now 1 (some .int) 0 := ⟨tvgc (tvc_8 (List.mem_of_getElem? (i := 75) (by decide +kernel))) rfl, tvgc (tvc_1 (List.mem_of_getElem? (i := 10) (by decide +kernel))) rfl, by decide +kernel, by decide +kernel, plainFor_of_name (by decide +kernel)⟩
theorem yi_X9_now : tvYi yX9_now := ⟨tvgc (tvc_8 (List.mem_of_getElem? (i := 74) (by decide +kernel))) rfl, tvg 66 (by decide +kernel) rfl⟩
theorem yk_X9_of : tvYk yX9_of cX9_of 3 (some .int) 2 := ⟨tvgc (tvc_7 (List.mem_of_getElem? (i := 54) (by decide +kernel))) rfl, tvgc (tvc_1 (List.mem_of_getElem? (i := 10) (by decide +kernel))) rfl, by decide +kernel, by decide +kernel, plainFor_of_name (by decide +kernel)⟩
theorem yi_X9_of : tvYi yX9_of := ⟨tvgc (tvc_7 (List.mem_of_getElem? (i := 53) (by decide +kernel))) rfl, tvg 41 (by decide +kernel) rfl⟩
theorem yk_X9_ofEvent : tvYk yX9_ofEvent cX9_ofEvent 3 (some .int) 2 := ⟨tvgc (tvc_8 (List.mem_of_getElem? (i := 21) (by decide +kernel))) rfl, tvgc (tvc_1 (List.mem_of_getElem? (i := 10) (by decide +kernel))) rfl, by decide +kernel, by decide +kernel, plainFor_of_name (by decide +kernel)⟩
theorem yi_X9_ofEvent : tvYi yX9_ofEvent := ⟨tvgc (tvc_8 (List.mem_of_getElem? (i := 20) (by decide +kernel))) rfl, tvg 61 (by decide +kernel) rfl⟩
theorem yk_X9_ofHolder : tvYk yX9_ofHolder cX9_ofHolder 3 (some .int) 2 := ⟨tvgc (tvc_7 (List.mem_of_getElem? (i := 66) (by decide +kernel))) rfl, tvgc (tvc_1 (List.mem_of_getElem? (i := 10) (by decide +kernel))) rfl, by decide +kernel, by decide +kernel, plainFor_of_name (by decide +kernel)⟩
theorem yi_X9_ofHolder : tvYi yX9_ofHolder := ⟨tvgc (tvc_7 (List.mem_of_getElem? (i := 65) (by decide +kernel))) rfl, tvg 44 (by decide +kernel) rfl⟩
theorem yk_X9_otherHolder : tvYk yX9_otherHolder cX9_otherHolder 3 (some .int) 2 := ⟨tvgc (tvc_7 (List.mem_of_getElem? (i := 192) (by decide +kernel))) rfl, tvgc (tvc_1 (List.mem_of_getElem? (i := 10) (by decide +kernel))) rfl, by decide +kernel, by decide +kernel, plainFor_of_name (by decide +kernel)⟩
theorem yi_X9_otherHolder : tvYi yX9_otherHolder := ⟨tvgc (tvc_7 (List.mem_of_getElem? (i := 190) (by decide +kernel))) rfl, tvgc (tvc_7 (List.mem_of_getElem? (i := 191) (by decide +kernel))) rfl⟩
theorem yk_X9_pearl : tvYk yX9_pearl cX9_pearl 3 (some .int) 2 := ⟨tvgc (tvc_7 (List.mem_of_getElem? (i := 225) (by decide +kernel))) rfl, tvgc (tvc_1 (List.mem_of_getElem? (i := 10) (by decide +kernel))) rfl, by decide +kernel, by decide +kernel, plainFor_of_name (by decide +kernel)⟩
theorem yi_X9_pearl : tvYi yX9_pearl := ⟨tvgc (tvc_7 (List.mem_of_getElem? (i := 223) (by decide +kernel))) rfl, tvgc (tvc_7 (List.mem_of_getElem? (i := 224) (by decide +kernel))) rfl⟩
theorem yk_X9_pearls : tvYk yX9_pearls cX9_pearls 2 (some .int) 1 := ⟨tvgc (tvc_7 (List.mem_of_getElem? (i := 221) (by decide +kernel))) rfl, tvgc (tvc_1 (List.mem_of_getElem? (i := 10) (by decide +kernel))) rfl, by decide +kernel, by decide +kernel, plainFor_of_name (by decide +kernel)⟩
theorem yi_X9_pearls : tvYi yX9_pearls := ⟨tvgc (tvc_7 (List.mem_of_getElem? (i := 219) (by decide +kernel))) rfl, tvgc (tvc_7 (List.mem_of_getElem? (i := 220) (by decide +kernel))) rfl⟩
theorem yk_X9_puts : tvYk yX9_puts cX9_puts 2 none 1 := ⟨tvgc (tvc_8 (List.mem_of_getElem? (i := 47) (by decide +kernel))) rfl, tvgc (tvc_1 (List.mem_of_getElem? (i := 10) (by decide +kernel))) rfl, by decide +kernel, by decide +kernel, plainFor_of_name (by decide +kernel)⟩
theorem yi_X9_puts : tvYi yX9_puts := ⟨tvgc (tvc_8 (List.mem_of_getElem? (i := 46) (by decide +kernel))) rfl, tvg 63 (by decide +kernel) rfl⟩
theorem yk_X9_remainingDelay : tvYk yX9_remainingDelay cX9_remainingDelay 2 (some .int) 1 := ⟨tvgc (tvc_7 (List.mem_of_getElem? (i := 204) (by decide +kernel))) rfl, tvgc (tvc_1 (List.mem_of_getElem? (i := 10) (by decide +kernel))) rfl, by decide +kernel, by decide +kernel, plainFor_of_name (by decide +kernel)⟩
theorem yi_X9_remainingDelay : tvYi yX9_remainingDelay := ⟨tvgc (tvc_7 (List.mem_of_getElem? (i := 202) (by decide +kernel))) rfl, tvgc (tvc_7 (List.mem_of_getElem? (i := 203) (by decide +kernel))) rfl⟩
theorem yk_X9_rings : tvYk yX9_rings cX9_rings 2 none 1 := ⟨tvgc (tvc_7 (List.mem_of_getElem? (i := 74) (by decide +kernel))) rfl, tvgc (tvc_1 (List.mem_of_getElem? (i := 10) (by decide +kernel))) rfl, by decide +kernel, by decide +kernel, plainFor_of_name (by decide +kernel)⟩
theorem yi_X9_rings : tvYi yX9_rings := ⟨tvgc (tvc_7 (List.mem_of_getElem? (i := 73) (by decide +kernel))) rfl, tvg 46 (by decide +kernel) rfl⟩
theorem yk_X9_sets : tvYk yX9_sets cX9_sets 4 none 3 := ⟨tvgc (tvc_7 (List.mem_of_getElem? (i := 26) (by decide +kernel))) rfl, tvgc (tvc_1 (List.mem_of_getElem? (i := 10) (by decide +kernel))) rfl, by decide +kernel, by decide +kernel, plainFor_of_name (by decide +kernel)⟩
theorem yi_X9_sets : tvYi yX9_sets := ⟨tvgc (tvc_7 (List.mem_of_getElem? (i := 25) (by decide +kernel))) rfl, tvg 36 (by decide +kernel) rfl⟩
theorem yk_X9_setsHolder : tvYk yX9_setsHolder cX9_setsHolder 4 none 3 := ⟨tvgc (tvc_7 (List.mem_of_getElem? (i := 2) (by decide +kernel))) rfl, tvgc (tvc_1 (List.mem_of_getElem? (i := 10) (by decide +kernel))) rfl, by decide +kernel, by decide +kernel, plainFor_of_name (by decide +kernel)⟩
theorem yi_X9_setsHolder : tvYi yX9_setsHolder := ⟨tvgc (tvc_7 (List.mem_of_getElem? (i := 1) (by decide +kernel))) rfl, tvg 31 (by decide +kernel) rfl⟩
theorem yk_X9_sign : tvYk yX9_sign cX9_sign 1 (some .int) 1 := ⟨tvgc (tvc_7 (List.mem_of_getElem? (i := 89) (by decide +kernel))) rfl, tvgc (tvc_1 (List.mem_of_getElem? (i := 10) (by decide +kernel))) rfl, by decide +kernel, by decide +kernel, plainFor_of_name (by decide +kernel)⟩
theorem yi_X9_sign : Cond.static yX9_sign ∈ tvGW := tvgc (tvc_7 (List.mem_of_getElem? (i := 88) (by decide +kernel))) rfl
theorem yk_X9_status : tvYk yX9_status cX9_status 2 (some .char) 1 := ⟨tvgc (tvc_7 (List.mem_of_getElem? (i := 196) (by decide +kernel))) rfl, tvgc (tvc_1 (List.mem_of_getElem? (i := 10) (by decide +kernel))) rfl, by decide +kernel, by decide +kernel, plainFor_of_name (by decide +kernel)⟩
theorem yi_X9_status : tvYi yX9_status := ⟨tvgc (tvc_7 (List.mem_of_getElem? (i := 194) (by decide +kernel))) rfl, tvgc (tvc_7 (List.mem_of_getElem? (i := 195) (by decide +kernel))) rfl⟩
theorem yk_X9_thrown : tvYk yX9_thrown cX9_thrown 1 (some .int) 0 := ⟨tvgc (tvc_6 (List.mem_of_getElem? (i := 216) (by decide +kernel))) rfl, tvgc (tvc_1 (List.mem_of_getElem? (i := 10) (by decide +kernel))) rfl, by decide +kernel, by decide +kernel, plainFor_of_name (by decide +kernel)⟩
theorem yi_X9_thrown : tvYi yX9_thrown := ⟨tvgc (tvc_6 (List.mem_of_getElem? (i := 214) (by decide +kernel))) rfl, tvgc (tvc_6 (List.mem_of_getElem? (i := 215) (by decide +kernel))) rfl⟩
theorem yk_X9_tides : tvYk yX9_tides cX9_tides 4 (some .int) 2 := ⟨tvgc (tvc_7 (List.mem_of_getElem? (i := 34) (by decide +kernel))) rfl, tvgc (tvc_1 (List.mem_of_getElem? (i := 10) (by decide +kernel))) rfl, by decide +kernel, by decide +kernel, plainFor_of_name (by decide +kernel)⟩
theorem yi_X9_tides : tvYi yX9_tides := ⟨tvgc (tvc_7 (List.mem_of_getElem? (i := 33) (by decide +kernel))) rfl, tvg 37 (by decide +kernel) rfl⟩
theorem yk_X9_time : tvYk yX9_time cX9_time 1 (some .int) 0 := ⟨tvgc (tvc_7 (List.mem_of_getElem? (i := 151) (by decide +kernel))) rfl, tvgc (tvc_1 (List.mem_of_getElem? (i := 10) (by decide +kernel))) rfl, by decide +kernel, by decide +kernel, plainFor_of_name (by decide +kernel)⟩
theorem yi_X9_time : tvYi yX9_time := ⟨tvgc (tvc_7 (List.mem_of_getElem? (i := 149) (by decide +kernel))) rfl, tvgc (tvc_7 (List.mem_of_getElem? (i := 150) (by decide +kernel))) rfl⟩
theorem yk_X9_totalValueByLedger : tvYk yX9_totalValueByLedger cX9_totalValueByLedger 1 (some .long) 0 := ⟨tvgc (tvc_8 (List.mem_of_getElem? (i := 1) (by decide +kernel))) rfl, tvgc (tvc_1 (List.mem_of_getElem? (i := 10) (by decide +kernel))) rfl, by decide +kernel, by decide +kernel, plainFor_of_name (by decide +kernel)⟩
theorem yi_X9_totalValueByLedger : tvYi yX9_totalValueByLedger := ⟨tvgc (tvc_7 (List.mem_of_getElem? (i := 239) (by decide +kernel))) rfl, tvgc (tvc_8 (List.mem_of_getElem? (i := 0) (by decide +kernel))) rfl⟩
theorem yk_X9_type : tvYk yX9_type cX9_type 2 (some .int) 1 := ⟨tvgc (tvc_8 (List.mem_of_getElem? (i := 59) (by decide +kernel))) rfl, tvgc (tvc_1 (List.mem_of_getElem? (i := 10) (by decide +kernel))) rfl, by decide +kernel, by decide +kernel, plainFor_of_name (by decide +kernel)⟩
theorem yi_X9_type : tvYi yX9_type := ⟨tvgc (tvc_8 (List.mem_of_getElem? (i := 57) (by decide +kernel))) rfl, tvgc (tvc_8 (List.mem_of_getElem? (i := 58) (by decide +kernel))) rfl⟩
theorem yk_X9_wasWrongCode : tvYk yX9_wasWrongCode cX9_wasWrongCode 1 (some .boolean) 0 := ⟨tvgc (tvc_8 (List.mem_of_getElem? (i := 135) (by decide +kernel))) rfl, tvgc (tvc_1 (List.mem_of_getElem? (i := 10) (by decide +kernel))) rfl, by decide +kernel, by decide +kernel, plainFor_of_name (by decide +kernel)⟩
theorem yi_X9_wasWrongCode : tvYi yX9_wasWrongCode := ⟨tvgc (tvc_8 (List.mem_of_getElem? (i := 133) (by decide +kernel))) rfl, tvgc (tvc_8 (List.mem_of_getElem? (i := 134) (by decide +kernel))) rfl⟩
def dl_X9_alarm : List (Nat × Instr × Nat) := [(0, .aload_n 0, 1), (1, .iconst 0, 1), (2, .putfield 38, 3), (5, .aload_n 0, 1), (6, .getfield 9, 3), (9, .iconst 3, 1), (10, .iaload, 1), (11, .ireturn, 1)]
theorem dlk_X9_alarm : tvDl cX9_alarm dl_X9_alarm = true := by decide +kernel
theorem dk_X9_alarm_0 : tvD cX9_alarm 0 (.aload_n 0) 1 1 := tvDl_get dlk_X9_alarm 0 rfl rfl
theorem dk_X9_alarm_1 : tvD cX9_alarm 1 (.iconst 0) 1 2 := tvDl_get dlk_X9_alarm 1 rfl rfl
theorem dk_X9_alarm_2 : tvD cX9_alarm 2 (.putfield 38) 3 5 := tvDl_get dlk_X9_alarm 2 rfl rfl
theorem dk_X9_alarm_5 : tvD cX9_alarm 5 (.aload_n 0) 1 6 := tvDl_get dlk_X9_alarm 3 rfl rfl
theorem dk_X9_alarm_6 : tvD cX9_alarm 6 (.getfield 9) 3 9 := tvDl_get dlk_X9_alarm 4 rfl rfl
theorem dk_X9_alarm_9 : tvD cX9_alarm 9 (.iconst 3) 1 10 := tvDl_get dlk_X9_alarm 5 rfl rfl
theorem dk_X9_alarm_10 : tvD cX9_alarm 10 (.iaload) 1 11 := tvDl_get dlk_X9_alarm 6 rfl rfl
theorem dk_X9_alarm_11 : tvD cX9_alarm 11 (.ireturn) 1 12 := tvDl_get dlk_X9_alarm 7 rfl rfl
def dl_X9_attempts : List (Nat × Instr × Nat) := [(0, .aload_n 0, 1), (1, .aload_n 0, 1), (2, .iload_n 1, 1), (3, .invokevirtual 80, 3), (6, .ifCond .ne 7, 3), (9, .iconst 1, 1), (10, .goto 4, 3), (13, .iconst 0, 1), (14, .iconst 1, 1), (15, .invokevirtual 62, 3), (18, .ifCond .eq 7, 3), (21, .iconst 0, 1), (22, .goto 9, 3), (25, .aload_n 0, 1), (26, .iload_n 1, 1), (27, .iconst 1, 1), (28, .invokevirtual 59, 3), (31, .ireturn, 1)]
theorem dlk_X9_attempts : tvDl cX9_attempts dl_X9_attempts = true := by decide +kernel
theorem dk_X9_attempts_0 : tvD cX9_attempts 0 (.aload_n 0) 1 1 := tvDl_get dlk_X9_attempts 0 rfl rfl
theorem dk_X9_attempts_1 : tvD cX9_attempts 1 (.aload_n 0) 1 2 := tvDl_get dlk_X9_attempts 1 rfl rfl
theorem dk_X9_attempts_2 : tvD cX9_attempts 2 (.iload_n 1) 1 3 := tvDl_get dlk_X9_attempts 2 rfl rfl
theorem dk_X9_attempts_3 : tvD cX9_attempts 3 (.invokevirtual 80) 3 6 := tvDl_get dlk_X9_attempts 3 rfl rfl
theorem dk_X9_attempts_6 : tvJ cX9_attempts 6 (.ifCond .ne) 13 9 := tvJl_get dlk_X9_attempts 4 rfl (by decide) rfl
theorem dk_X9_attempts_9 : tvD cX9_attempts 9 (.iconst 1) 1 10 := tvDl_get dlk_X9_attempts 5 rfl rfl
theorem dk_X9_attempts_10 : tvJ cX9_attempts 10 .goto 14 13 := tvJl_get dlk_X9_attempts 6 rfl (by decide) rfl
theorem dk_X9_attempts_13 : tvD cX9_attempts 13 (.iconst 0) 1 14 := tvDl_get dlk_X9_attempts 7 rfl rfl
theorem dk_X9_attempts_14 : tvD cX9_attempts 14 (.iconst 1) 1 15 := tvDl_get dlk_X9_attempts 8 rfl rfl
theorem dk_X9_attempts_15 : tvD cX9_attempts 15 (.invokevirtual 62) 3 18 := tvDl_get dlk_X9_attempts 9 rfl rfl
theorem dk_X9_attempts_18 : tvJ cX9_attempts 18 (.ifCond .eq) 25 21 := tvJl_get dlk_X9_attempts 10 rfl (by decide) rfl
theorem dk_X9_attempts_21 : tvD cX9_attempts 21 (.iconst 0) 1 22 := tvDl_get dlk_X9_attempts 11 rfl rfl
theorem dk_X9_attempts_22 : tvJ cX9_attempts 22 .goto 31 25 := tvJl_get dlk_X9_attempts 12 rfl (by decide) rfl
theorem dk_X9_attempts_25 : tvD cX9_attempts 25 (.aload_n 0) 1 26 := tvDl_get dlk_X9_attempts 13 rfl rfl
theorem dk_X9_attempts_26 : tvD cX9_attempts 26 (.iload_n 1) 1 27 := tvDl_get dlk_X9_attempts 14 rfl rfl
theorem dk_X9_attempts_27 : tvD cX9_attempts 27 (.iconst 1) 1 28 := tvDl_get dlk_X9_attempts 15 rfl rfl
theorem dk_X9_attempts_28 : tvD cX9_attempts 28 (.invokevirtual 59) 3 31 := tvDl_get dlk_X9_attempts 16 rfl rfl
theorem dk_X9_attempts_31 : tvD cX9_attempts 31 (.ireturn) 1 32 := tvDl_get dlk_X9_attempts 17 rfl rfl
def dl_X9_boxed : List (Nat × Instr × Nat) := [(0, .aload_n 0, 1), (1, .aload_n 0, 1), (2, .iload_n 1, 1), (3, .invokevirtual 80, 3), (6, .ifCond .eq 11, 3), (9, .aload_n 0, 1), (10, .iload_n 2, 1), (11, .invokevirtual 80, 3), (14, .ifCond .ne 7, 3), (17, .iconst 1, 1), (18, .goto 4, 3), (21, .iconst 0, 1), (22, .iconst 1, 1), (23, .invokevirtual 62, 3), (26, .ifCond .ne 56, 3), (29, .aload_n 0, 1), (30, .iload_n 1, 1), (31, .iload_n 2, 1), (32, .if_icmp .eq 13, 3), (35, .iload_n 3, 1), (36, .iconst 0, 1), (37, .bipush 60, 2), (39, .invokestatic 51, 3), (42, .ifCond .ne 7, 3), (45, .iconst 1, 1), (46, .goto 4, 3), (49, .iconst 0, 1), (50, .iconst 2, 1), (51, .invokevirtual 62, 3), (54, .ifCond .ne 28, 3), (57, .aload_n 0, 1), (58, .aload_n 0, 1), (59, .getfield 9, 3), (62, .bipush 10, 2), (64, .iaload, 1), (65, .bipush 10, 2), (67, .if_icmp .ne 7, 3), (70, .iconst 1, 1), (71, .goto 4, 3), (74, .iconst 0, 1), (75, .iconst 3, 1), (76, .invokevirtual 62, 3), (79, .ifCond .eq 5, 3), (82, .iconst 0, 1), (83, .ireturn, 1), (84, .aload_n 0, 1), (85, .getfield 9, 3), (88, .bipush 10, 2), (90, .iaload, 1), (91, .istore 4, 2), (93, .aload_n 0, 1), (94, .iload 4, 2), (96, .iconst 0, 1), (97, .iload_n 1, 1), (98, .invokevirtual 84, 3), (101, .aload_n 0, 1), (102, .iload 4, 2), (104, .iconst 1, 1), (105, .iload_n 2, 1), (106, .invokevirtual 84, 3)]
theorem dlk_X9_boxed : tvDl cX9_boxed dl_X9_boxed = true := by decide +kernel
theorem dk_X9_boxed_0 : tvD cX9_boxed 0 (.aload_n 0) 1 1 := tvDl_get dlk_X9_boxed 0 rfl rfl
theorem dk_X9_boxed_1 : tvD cX9_boxed 1 (.aload_n 0) 1 2 := tvDl_get dlk_X9_boxed 1 rfl rfl
theorem dk_X9_boxed_2 : tvD cX9_boxed 2 (.iload_n 1) 1 3 := tvDl_get dlk_X9_boxed 2 rfl rfl
theorem dk_X9_boxed_3 : tvD cX9_boxed 3 (.invokevirtual 80) 3 6 := tvDl_get dlk_X9_boxed 3 rfl rfl
theorem dk_X9_boxed_6 : tvJ cX9_boxed 6 (.ifCond .eq) 17 9 := tvJl_get dlk_X9_boxed 4 rfl (by decide) rfl
theorem dk_X9_boxed_9 : tvD cX9_boxed 9 (.aload_n 0) 1 10 := tvDl_get dlk_X9_boxed 5 rfl rfl
theorem dk_X9_boxed_10 : tvD cX9_boxed 10 (.iload_n 2) 1 11 := tvDl_get dlk_X9_boxed 6 rfl rfl
theorem dk_X9_boxed_11 : tvD cX9_boxed 11 (.invokevirtual 80) 3 14 := tvDl_get dlk_X9_boxed 7 rfl rfl
theorem dk_X9_boxed_14 : tvJ cX9_boxed 14 (.ifCond .ne) 21 17 := tvJl_get dlk_X9_boxed 8 rfl (by decide) rfl
theorem dk_X9_boxed_17 : tvD cX9_boxed 17 (.iconst 1) 1 18 := tvDl_get dlk_X9_boxed 9 rfl rfl
theorem dk_X9_boxed_18 : tvJ cX9_boxed 18 .goto 22 21 := tvJl_get dlk_X9_boxed 10 rfl (by decide) rfl
theorem dk_X9_boxed_21 : tvD cX9_boxed 21 (.iconst 0) 1 22 := tvDl_get dlk_X9_boxed 11 rfl rfl
theorem dk_X9_boxed_22 : tvD cX9_boxed 22 (.iconst 1) 1 23 := tvDl_get dlk_X9_boxed 12 rfl rfl
theorem dk_X9_boxed_23 : tvD cX9_boxed 23 (.invokevirtual 62) 3 26 := tvDl_get dlk_X9_boxed 13 rfl rfl
theorem dk_X9_boxed_26 : tvJ cX9_boxed 26 (.ifCond .ne) 82 29 := tvJl_get dlk_X9_boxed 14 rfl (by decide) rfl
theorem dk_X9_boxed_29 : tvD cX9_boxed 29 (.aload_n 0) 1 30 := tvDl_get dlk_X9_boxed 15 rfl rfl
theorem dk_X9_boxed_30 : tvD cX9_boxed 30 (.iload_n 1) 1 31 := tvDl_get dlk_X9_boxed 16 rfl rfl
theorem dk_X9_boxed_31 : tvD cX9_boxed 31 (.iload_n 2) 1 32 := tvDl_get dlk_X9_boxed 17 rfl rfl
theorem dk_X9_boxed_32 : tvJ cX9_boxed 32 (.if_icmp .eq) 45 35 := tvJl_get dlk_X9_boxed 18 rfl (by decide) rfl
theorem dk_X9_boxed_35 : tvD cX9_boxed 35 (.iload_n 3) 1 36 := tvDl_get dlk_X9_boxed 19 rfl rfl
theorem dk_X9_boxed_36 : tvD cX9_boxed 36 (.iconst 0) 1 37 := tvDl_get dlk_X9_boxed 20 rfl rfl
theorem dk_X9_boxed_37 : tvD cX9_boxed 37 (.bipush 60) 2 39 := tvDl_get dlk_X9_boxed 21 rfl rfl
theorem dk_X9_boxed_39 : tvD cX9_boxed 39 (.invokestatic 51) 3 42 := tvDl_get dlk_X9_boxed 22 rfl rfl
theorem dk_X9_boxed_42 : tvJ cX9_boxed 42 (.ifCond .ne) 49 45 := tvJl_get dlk_X9_boxed 23 rfl (by decide) rfl
theorem dk_X9_boxed_45 : tvD cX9_boxed 45 (.iconst 1) 1 46 := tvDl_get dlk_X9_boxed 24 rfl rfl
theorem dk_X9_boxed_46 : tvJ cX9_boxed 46 .goto 50 49 := tvJl_get dlk_X9_boxed 25 rfl (by decide) rfl
theorem dk_X9_boxed_49 : tvD cX9_boxed 49 (.iconst 0) 1 50 := tvDl_get dlk_X9_boxed 26 rfl rfl
theorem dk_X9_boxed_50 : tvD cX9_boxed 50 (.iconst 2) 1 51 := tvDl_get dlk_X9_boxed 27 rfl rfl
theorem dk_X9_boxed_51 : tvD cX9_boxed 51 (.invokevirtual 62) 3 54 := tvDl_get dlk_X9_boxed 28 rfl rfl
theorem dk_X9_boxed_54 : tvJ cX9_boxed 54 (.ifCond .ne) 82 57 := tvJl_get dlk_X9_boxed 29 rfl (by decide) rfl
theorem dk_X9_boxed_57 : tvD cX9_boxed 57 (.aload_n 0) 1 58 := tvDl_get dlk_X9_boxed 30 rfl rfl
theorem dk_X9_boxed_58 : tvD cX9_boxed 58 (.aload_n 0) 1 59 := tvDl_get dlk_X9_boxed 31 rfl rfl
theorem dk_X9_boxed_59 : tvD cX9_boxed 59 (.getfield 9) 3 62 := tvDl_get dlk_X9_boxed 32 rfl rfl
theorem dk_X9_boxed_62 : tvD cX9_boxed 62 (.bipush 10) 2 64 := tvDl_get dlk_X9_boxed 33 rfl rfl
theorem dk_X9_boxed_64 : tvD cX9_boxed 64 (.iaload) 1 65 := tvDl_get dlk_X9_boxed 34 rfl rfl
theorem dk_X9_boxed_65 : tvD cX9_boxed 65 (.bipush 10) 2 67 := tvDl_get dlk_X9_boxed 35 rfl rfl
theorem dk_X9_boxed_67 : tvJ cX9_boxed 67 (.if_icmp .ne) 74 70 := tvJl_get dlk_X9_boxed 36 rfl (by decide) rfl
theorem dk_X9_boxed_70 : tvD cX9_boxed 70 (.iconst 1) 1 71 := tvDl_get dlk_X9_boxed 37 rfl rfl
theorem dk_X9_boxed_71 : tvJ cX9_boxed 71 .goto 75 74 := tvJl_get dlk_X9_boxed 38 rfl (by decide) rfl
theorem dk_X9_boxed_74 : tvD cX9_boxed 74 (.iconst 0) 1 75 := tvDl_get dlk_X9_boxed 39 rfl rfl
theorem dk_X9_boxed_75 : tvD cX9_boxed 75 (.iconst 3) 1 76 := tvDl_get dlk_X9_boxed 40 rfl rfl
theorem dk_X9_boxed_76 : tvD cX9_boxed 76 (.invokevirtual 62) 3 79 := tvDl_get dlk_X9_boxed 41 rfl rfl
theorem dk_X9_boxed_79 : tvJ cX9_boxed 79 (.ifCond .eq) 84 82 := tvJl_get dlk_X9_boxed 42 rfl (by decide) rfl
theorem dk_X9_boxed_82 : tvD cX9_boxed 82 (.iconst 0) 1 83 := tvDl_get dlk_X9_boxed 43 rfl rfl
theorem dk_X9_boxed_83 : tvD cX9_boxed 83 (.ireturn) 1 84 := tvDl_get dlk_X9_boxed 44 rfl rfl
theorem dk_X9_boxed_84 : tvD cX9_boxed 84 (.aload_n 0) 1 85 := tvDl_get dlk_X9_boxed 45 rfl rfl
theorem dk_X9_boxed_85 : tvD cX9_boxed 85 (.getfield 9) 3 88 := tvDl_get dlk_X9_boxed 46 rfl rfl
theorem dk_X9_boxed_88 : tvD cX9_boxed 88 (.bipush 10) 2 90 := tvDl_get dlk_X9_boxed 47 rfl rfl
theorem dk_X9_boxed_90 : tvD cX9_boxed 90 (.iaload) 1 91 := tvDl_get dlk_X9_boxed 48 rfl rfl
theorem dk_X9_boxed_91 : tvD cX9_boxed 91 (.istore 4) 2 93 := tvDl_get dlk_X9_boxed 49 rfl rfl
theorem dk_X9_boxed_93 : tvD cX9_boxed 93 (.aload_n 0) 1 94 := tvDl_get dlk_X9_boxed 50 rfl rfl
theorem dk_X9_boxed_94 : tvD cX9_boxed 94 (.iload 4) 2 96 := tvDl_get dlk_X9_boxed 51 rfl rfl
theorem dk_X9_boxed_96 : tvD cX9_boxed 96 (.iconst 0) 1 97 := tvDl_get dlk_X9_boxed 52 rfl rfl
theorem dk_X9_boxed_97 : tvD cX9_boxed 97 (.iload_n 1) 1 98 := tvDl_get dlk_X9_boxed 53 rfl rfl
theorem dk_X9_boxed_98 : tvD cX9_boxed 98 (.invokevirtual 84) 3 101 := tvDl_get dlk_X9_boxed 54 rfl rfl
theorem dk_X9_boxed_101 : tvD cX9_boxed 101 (.aload_n 0) 1 102 := tvDl_get dlk_X9_boxed 55 rfl rfl
theorem dk_X9_boxed_102 : tvD cX9_boxed 102 (.iload 4) 2 104 := tvDl_get dlk_X9_boxed 56 rfl rfl
theorem dk_X9_boxed_104 : tvD cX9_boxed 104 (.iconst 1) 1 105 := tvDl_get dlk_X9_boxed 57 rfl rfl
theorem dk_X9_boxed_105 : tvD cX9_boxed 105 (.iload_n 2) 1 106 := tvDl_get dlk_X9_boxed 58 rfl rfl
theorem dk_X9_boxed_106 : tvD cX9_boxed 106 (.invokevirtual 84) 3 109 := tvDl_get dlk_X9_boxed 59 rfl rfl
def dl_X9_boxed_1 : List (Nat × Instr × Nat) := [(109, .aload_n 0, 1), (110, .iload 4, 2), (112, .iconst 2, 1), (113, .iload_n 3, 1), (114, .invokevirtual 84, 3), (117, .aload_n 0, 1), (118, .getfield 9, 3), (121, .bipush 10, 2), (123, .dup2, 1), (124, .iaload, 1), (125, .iconst 1, 1), (126, .iadd, 1), (127, .iastore, 1), (128, .iload 4, 2), (130, .ireturn, 1)]
theorem dlk_X9_boxed_1 : tvDl cX9_boxed dl_X9_boxed_1 = true := by decide +kernel
theorem dk_X9_boxed_109 : tvD cX9_boxed 109 (.aload_n 0) 1 110 := tvDl_get dlk_X9_boxed_1 0 rfl rfl
theorem dk_X9_boxed_110 : tvD cX9_boxed 110 (.iload 4) 2 112 := tvDl_get dlk_X9_boxed_1 1 rfl rfl
theorem dk_X9_boxed_112 : tvD cX9_boxed 112 (.iconst 2) 1 113 := tvDl_get dlk_X9_boxed_1 2 rfl rfl
theorem dk_X9_boxed_113 : tvD cX9_boxed 113 (.iload_n 3) 1 114 := tvDl_get dlk_X9_boxed_1 3 rfl rfl
theorem dk_X9_boxed_114 : tvD cX9_boxed 114 (.invokevirtual 84) 3 117 := tvDl_get dlk_X9_boxed_1 4 rfl rfl
theorem dk_X9_boxed_117 : tvD cX9_boxed 117 (.aload_n 0) 1 118 := tvDl_get dlk_X9_boxed_1 5 rfl rfl
theorem dk_X9_boxed_118 : tvD cX9_boxed 118 (.getfield 9) 3 121 := tvDl_get dlk_X9_boxed_1 6 rfl rfl
theorem dk_X9_boxed_121 : tvD cX9_boxed 121 (.bipush 10) 2 123 := tvDl_get dlk_X9_boxed_1 7 rfl rfl
theorem dk_X9_boxed_123 : tvD cX9_boxed 123 (.dup2) 1 124 := tvDl_get dlk_X9_boxed_1 8 rfl rfl
theorem dk_X9_boxed_124 : tvD cX9_boxed 124 (.iaload) 1 125 := tvDl_get dlk_X9_boxed_1 9 rfl rfl
theorem dk_X9_boxed_125 : tvD cX9_boxed 125 (.iconst 1) 1 126 := tvDl_get dlk_X9_boxed_1 10 rfl rfl
theorem dk_X9_boxed_126 : tvD cX9_boxed 126 (.iadd) 1 127 := tvDl_get dlk_X9_boxed_1 11 rfl rfl
theorem dk_X9_boxed_127 : tvD cX9_boxed 127 (.iastore) 1 128 := tvDl_get dlk_X9_boxed_1 12 rfl rfl
theorem dk_X9_boxed_128 : tvD cX9_boxed 128 (.iload 4) 2 130 := tvDl_get dlk_X9_boxed_1 13 rfl rfl
theorem dk_X9_boxed_130 : tvD cX9_boxed 130 (.ireturn) 1 131 := tvDl_get dlk_X9_boxed_1 14 rfl rfl
def dl_X9_boxes : List (Nat × Instr × Nat) := [(0, .aload_n 0, 1), (1, .iconst 0, 1), (2, .putfield 38, 3), (5, .aload_n 0, 1), (6, .getfield 9, 3), (9, .bipush 10, 2), (11, .iaload, 1), (12, .ireturn, 1)]
theorem dlk_X9_boxes : tvDl cX9_boxes dl_X9_boxes = true := by decide +kernel
theorem dk_X9_boxes_0 : tvD cX9_boxes 0 (.aload_n 0) 1 1 := tvDl_get dlk_X9_boxes 0 rfl rfl
theorem dk_X9_boxes_1 : tvD cX9_boxes 1 (.iconst 0) 1 2 := tvDl_get dlk_X9_boxes 1 rfl rfl
theorem dk_X9_boxes_2 : tvD cX9_boxes 2 (.putfield 38) 3 5 := tvDl_get dlk_X9_boxes 2 rfl rfl
theorem dk_X9_boxes_5 : tvD cX9_boxes 5 (.aload_n 0) 1 6 := tvDl_get dlk_X9_boxes 3 rfl rfl
theorem dk_X9_boxes_6 : tvD cX9_boxes 6 (.getfield 9) 3 9 := tvDl_get dlk_X9_boxes 4 rfl rfl
theorem dk_X9_boxes_9 : tvD cX9_boxes 9 (.bipush 10) 2 11 := tvDl_get dlk_X9_boxes 5 rfl rfl
theorem dk_X9_boxes_11 : tvD cX9_boxes 11 (.iaload) 1 12 := tvDl_get dlk_X9_boxes 6 rfl rfl
theorem dk_X9_boxes_12 : tvD cX9_boxes 12 (.ireturn) 1 13 := tvDl_get dlk_X9_boxes 7 rfl rfl
def dl_X9_cannotTurn : List (Nat × Instr × Nat) := [(0, .aload_n 0, 1), (1, .iload_n 1, 1), (2, .iconst 3, 1), (3, .invokevirtual 55, 3), (6, .iconst 1, 1), (7, .if_icmp .ne 17, 3), (10, .aload_n 0, 1), (11, .iload_n 1, 1), (12, .iconst 4, 1), (13, .invokevirtual 55, 3), (16, .iload_n 2, 1), (17, .if_icmp .ne 7, 3), (20, .iconst 1, 1), (21, .goto 4, 3), (24, .iconst 0, 1), (25, .istore_n 3, 1), (26, .aload_n 0, 1), (27, .getfield 9, 3), (30, .iconst 3, 1), (31, .iaload, 1), (32, .bipush 50, 2), (34, .if_icmp .ge 25, 3), (37, .aload_n 0, 1), (38, .iload_n 2, 1), (39, .invokevirtual 110, 3), (42, .ifCond .ne 17, 3), (45, .aload_n 0, 1), (46, .iload_n 1, 1), (47, .iconst 3, 1), (48, .invokevirtual 55, 3), (51, .iconst 2, 1), (52, .if_icmp .ge 7, 3), (55, .iload_n 3, 1), (56, .ifCond .eq 7, 3), (59, .iconst 1, 1), (60, .goto 4, 3), (63, .iconst 0, 1), (64, .ireturn, 1)]
theorem dlk_X9_cannotTurn : tvDl cX9_cannotTurn dl_X9_cannotTurn = true := by decide +kernel
theorem dk_X9_cannotTurn_0 : tvD cX9_cannotTurn 0 (.aload_n 0) 1 1 := tvDl_get dlk_X9_cannotTurn 0 rfl rfl
theorem dk_X9_cannotTurn_1 : tvD cX9_cannotTurn 1 (.iload_n 1) 1 2 := tvDl_get dlk_X9_cannotTurn 1 rfl rfl
theorem dk_X9_cannotTurn_2 : tvD cX9_cannotTurn 2 (.iconst 3) 1 3 := tvDl_get dlk_X9_cannotTurn 2 rfl rfl
theorem dk_X9_cannotTurn_3 : tvD cX9_cannotTurn 3 (.invokevirtual 55) 3 6 := tvDl_get dlk_X9_cannotTurn 3 rfl rfl
theorem dk_X9_cannotTurn_6 : tvD cX9_cannotTurn 6 (.iconst 1) 1 7 := tvDl_get dlk_X9_cannotTurn 4 rfl rfl
theorem dk_X9_cannotTurn_7 : tvJ cX9_cannotTurn 7 (.if_icmp .ne) 24 10 := tvJl_get dlk_X9_cannotTurn 5 rfl (by decide) rfl
theorem dk_X9_cannotTurn_10 : tvD cX9_cannotTurn 10 (.aload_n 0) 1 11 := tvDl_get dlk_X9_cannotTurn 6 rfl rfl
theorem dk_X9_cannotTurn_11 : tvD cX9_cannotTurn 11 (.iload_n 1) 1 12 := tvDl_get dlk_X9_cannotTurn 7 rfl rfl
theorem dk_X9_cannotTurn_12 : tvD cX9_cannotTurn 12 (.iconst 4) 1 13 := tvDl_get dlk_X9_cannotTurn 8 rfl rfl
theorem dk_X9_cannotTurn_13 : tvD cX9_cannotTurn 13 (.invokevirtual 55) 3 16 := tvDl_get dlk_X9_cannotTurn 9 rfl rfl
theorem dk_X9_cannotTurn_16 : tvD cX9_cannotTurn 16 (.iload_n 2) 1 17 := tvDl_get dlk_X9_cannotTurn 10 rfl rfl
theorem dk_X9_cannotTurn_17 : tvJ cX9_cannotTurn 17 (.if_icmp .ne) 24 20 := tvJl_get dlk_X9_cannotTurn 11 rfl (by decide) rfl
theorem dk_X9_cannotTurn_20 : tvD cX9_cannotTurn 20 (.iconst 1) 1 21 := tvDl_get dlk_X9_cannotTurn 12 rfl rfl
theorem dk_X9_cannotTurn_21 : tvJ cX9_cannotTurn 21 .goto 25 24 := tvJl_get dlk_X9_cannotTurn 13 rfl (by decide) rfl
theorem dk_X9_cannotTurn_24 : tvD cX9_cannotTurn 24 (.iconst 0) 1 25 := tvDl_get dlk_X9_cannotTurn 14 rfl rfl
theorem dk_X9_cannotTurn_25 : tvD cX9_cannotTurn 25 (.istore_n 3) 1 26 := tvDl_get dlk_X9_cannotTurn 15 rfl rfl
theorem dk_X9_cannotTurn_26 : tvD cX9_cannotTurn 26 (.aload_n 0) 1 27 := tvDl_get dlk_X9_cannotTurn 16 rfl rfl
theorem dk_X9_cannotTurn_27 : tvD cX9_cannotTurn 27 (.getfield 9) 3 30 := tvDl_get dlk_X9_cannotTurn 17 rfl rfl
theorem dk_X9_cannotTurn_30 : tvD cX9_cannotTurn 30 (.iconst 3) 1 31 := tvDl_get dlk_X9_cannotTurn 18 rfl rfl
theorem dk_X9_cannotTurn_31 : tvD cX9_cannotTurn 31 (.iaload) 1 32 := tvDl_get dlk_X9_cannotTurn 19 rfl rfl
theorem dk_X9_cannotTurn_32 : tvD cX9_cannotTurn 32 (.bipush 50) 2 34 := tvDl_get dlk_X9_cannotTurn 20 rfl rfl
theorem dk_X9_cannotTurn_34 : tvJ cX9_cannotTurn 34 (.if_icmp .ge) 59 37 := tvJl_get dlk_X9_cannotTurn 21 rfl (by decide) rfl
theorem dk_X9_cannotTurn_37 : tvD cX9_cannotTurn 37 (.aload_n 0) 1 38 := tvDl_get dlk_X9_cannotTurn 22 rfl rfl
theorem dk_X9_cannotTurn_38 : tvD cX9_cannotTurn 38 (.iload_n 2) 1 39 := tvDl_get dlk_X9_cannotTurn 23 rfl rfl
theorem dk_X9_cannotTurn_39 : tvD cX9_cannotTurn 39 (.invokevirtual 110) 3 42 := tvDl_get dlk_X9_cannotTurn 24 rfl rfl
theorem dk_X9_cannotTurn_42 : tvJ cX9_cannotTurn 42 (.ifCond .ne) 59 45 := tvJl_get dlk_X9_cannotTurn 25 rfl (by decide) rfl
theorem dk_X9_cannotTurn_45 : tvD cX9_cannotTurn 45 (.aload_n 0) 1 46 := tvDl_get dlk_X9_cannotTurn 26 rfl rfl
theorem dk_X9_cannotTurn_46 : tvD cX9_cannotTurn 46 (.iload_n 1) 1 47 := tvDl_get dlk_X9_cannotTurn 27 rfl rfl
theorem dk_X9_cannotTurn_47 : tvD cX9_cannotTurn 47 (.iconst 3) 1 48 := tvDl_get dlk_X9_cannotTurn 28 rfl rfl
theorem dk_X9_cannotTurn_48 : tvD cX9_cannotTurn 48 (.invokevirtual 55) 3 51 := tvDl_get dlk_X9_cannotTurn 29 rfl rfl
theorem dk_X9_cannotTurn_51 : tvD cX9_cannotTurn 51 (.iconst 2) 1 52 := tvDl_get dlk_X9_cannotTurn 30 rfl rfl
theorem dk_X9_cannotTurn_52 : tvJ cX9_cannotTurn 52 (.if_icmp .ge) 59 55 := tvJl_get dlk_X9_cannotTurn 31 rfl (by decide) rfl
theorem dk_X9_cannotTurn_55 : tvD cX9_cannotTurn 55 (.iload_n 3) 1 56 := tvDl_get dlk_X9_cannotTurn 32 rfl rfl
theorem dk_X9_cannotTurn_56 : tvJ cX9_cannotTurn 56 (.ifCond .eq) 63 59 := tvJl_get dlk_X9_cannotTurn 33 rfl (by decide) rfl
theorem dk_X9_cannotTurn_59 : tvD cX9_cannotTurn 59 (.iconst 1) 1 60 := tvDl_get dlk_X9_cannotTurn 34 rfl rfl
theorem dk_X9_cannotTurn_60 : tvJ cX9_cannotTurn 60 .goto 64 63 := tvJl_get dlk_X9_cannotTurn 35 rfl (by decide) rfl
theorem dk_X9_cannotTurn_63 : tvD cX9_cannotTurn 63 (.iconst 0) 1 64 := tvDl_get dlk_X9_cannotTurn 36 rfl rfl
theorem dk_X9_cannotTurn_64 : tvD cX9_cannotTurn 64 (.ireturn) 1 65 := tvDl_get dlk_X9_cannotTurn 37 rfl rfl
def dl_X9_charAt : List (Nat × Instr × Nat) := [(0, .aload_n 0, 1), (1, .iload_n 1, 1), (2, .iconst 0, 1), (3, .aload_n 0, 1), (4, .getfield 187, 3), (7, .iconst 1, 1), (8, .isub, 1), (9, .invokestatic 51, 3), (12, .ifCond .ne 7, 3), (15, .iconst 1, 1), (16, .goto 4, 3), (19, .iconst 0, 1), (20, .iconst 1, 1), (21, .invokevirtual 62, 3), (24, .ifCond .eq 7, 3), (27, .iconst 0, 1), (28, .goto 10, 3), (31, .aload_n 0, 1), (32, .getfield 29, 3), (35, .iload_n 1, 1), (36, .iaload, 1), (37, .i2c, 1), (38, .ireturn, 1)]
theorem dlk_X9_charAt : tvDl cX9_charAt dl_X9_charAt = true := by decide +kernel
theorem dk_X9_charAt_0 : tvD cX9_charAt 0 (.aload_n 0) 1 1 := tvDl_get dlk_X9_charAt 0 rfl rfl
theorem dk_X9_charAt_1 : tvD cX9_charAt 1 (.iload_n 1) 1 2 := tvDl_get dlk_X9_charAt 1 rfl rfl
theorem dk_X9_charAt_2 : tvD cX9_charAt 2 (.iconst 0) 1 3 := tvDl_get dlk_X9_charAt 2 rfl rfl
theorem dk_X9_charAt_3 : tvD cX9_charAt 3 (.aload_n 0) 1 4 := tvDl_get dlk_X9_charAt 3 rfl rfl
theorem dk_X9_charAt_4 : tvD cX9_charAt 4 (.getfield 187) 3 7 := tvDl_get dlk_X9_charAt 4 rfl rfl
theorem dk_X9_charAt_7 : tvD cX9_charAt 7 (.iconst 1) 1 8 := tvDl_get dlk_X9_charAt 5 rfl rfl
theorem dk_X9_charAt_8 : tvD cX9_charAt 8 (.isub) 1 9 := tvDl_get dlk_X9_charAt 6 rfl rfl
theorem dk_X9_charAt_9 : tvD cX9_charAt 9 (.invokestatic 51) 3 12 := tvDl_get dlk_X9_charAt 7 rfl rfl
theorem dk_X9_charAt_12 : tvJ cX9_charAt 12 (.ifCond .ne) 19 15 := tvJl_get dlk_X9_charAt 8 rfl (by decide) rfl
theorem dk_X9_charAt_15 : tvD cX9_charAt 15 (.iconst 1) 1 16 := tvDl_get dlk_X9_charAt 9 rfl rfl
theorem dk_X9_charAt_16 : tvJ cX9_charAt 16 .goto 20 19 := tvJl_get dlk_X9_charAt 10 rfl (by decide) rfl
theorem dk_X9_charAt_19 : tvD cX9_charAt 19 (.iconst 0) 1 20 := tvDl_get dlk_X9_charAt 11 rfl rfl
theorem dk_X9_charAt_20 : tvD cX9_charAt 20 (.iconst 1) 1 21 := tvDl_get dlk_X9_charAt 12 rfl rfl
theorem dk_X9_charAt_21 : tvD cX9_charAt 21 (.invokevirtual 62) 3 24 := tvDl_get dlk_X9_charAt 13 rfl rfl
theorem dk_X9_charAt_24 : tvJ cX9_charAt 24 (.ifCond .eq) 31 27 := tvJl_get dlk_X9_charAt 14 rfl (by decide) rfl
theorem dk_X9_charAt_27 : tvD cX9_charAt 27 (.iconst 0) 1 28 := tvDl_get dlk_X9_charAt 15 rfl rfl
theorem dk_X9_charAt_28 : tvJ cX9_charAt 28 .goto 38 31 := tvJl_get dlk_X9_charAt 16 rfl (by decide) rfl
theorem dk_X9_charAt_31 : tvD cX9_charAt 31 (.aload_n 0) 1 32 := tvDl_get dlk_X9_charAt 17 rfl rfl
theorem dk_X9_charAt_32 : tvD cX9_charAt 32 (.getfield 29) 3 35 := tvDl_get dlk_X9_charAt 18 rfl rfl
theorem dk_X9_charAt_35 : tvD cX9_charAt 35 (.iload_n 1) 1 36 := tvDl_get dlk_X9_charAt 19 rfl rfl
theorem dk_X9_charAt_36 : tvD cX9_charAt 36 (.iaload) 1 37 := tvDl_get dlk_X9_charAt 20 rfl rfl
theorem dk_X9_charAt_37 : tvD cX9_charAt 37 (.i2c) 1 38 := tvDl_get dlk_X9_charAt 21 rfl rfl
theorem dk_X9_charAt_38 : tvD cX9_charAt 38 (.ireturn) 1 39 := tvDl_get dlk_X9_charAt 22 rfl rfl
def dl_X9_errorPosition : List (Nat × Instr × Nat) := [(0, .aload_n 0, 1), (1, .aload_n 0, 1), (2, .getfield 22, 3), (5, .ifCond .ge 7, 3), (8, .iconst 1, 1), (9, .goto 4, 3), (12, .iconst 0, 1), (13, .iconst 1, 1), (14, .invokevirtual 62, 3), (17, .ifCond .eq 7, 3), (20, .iconst 0, 1), (21, .goto 7, 3), (24, .aload_n 0, 1), (25, .getfield 22, 3), (28, .ireturn, 1)]
theorem dlk_X9_errorPosition : tvDl cX9_errorPosition dl_X9_errorPosition = true := by decide +kernel
theorem dk_X9_errorPosition_0 : tvD cX9_errorPosition 0 (.aload_n 0) 1 1 := tvDl_get dlk_X9_errorPosition 0 rfl rfl
theorem dk_X9_errorPosition_1 : tvD cX9_errorPosition 1 (.aload_n 0) 1 2 := tvDl_get dlk_X9_errorPosition 1 rfl rfl
theorem dk_X9_errorPosition_2 : tvD cX9_errorPosition 2 (.getfield 22) 3 5 := tvDl_get dlk_X9_errorPosition 2 rfl rfl
theorem dk_X9_errorPosition_5 : tvJ cX9_errorPosition 5 (.ifCond .ge) 12 8 := tvJl_get dlk_X9_errorPosition 3 rfl (by decide) rfl
theorem dk_X9_errorPosition_8 : tvD cX9_errorPosition 8 (.iconst 1) 1 9 := tvDl_get dlk_X9_errorPosition 4 rfl rfl
theorem dk_X9_errorPosition_9 : tvJ cX9_errorPosition 9 .goto 13 12 := tvJl_get dlk_X9_errorPosition 5 rfl (by decide) rfl
theorem dk_X9_errorPosition_12 : tvD cX9_errorPosition 12 (.iconst 0) 1 13 := tvDl_get dlk_X9_errorPosition 6 rfl rfl
theorem dk_X9_errorPosition_13 : tvD cX9_errorPosition 13 (.iconst 1) 1 14 := tvDl_get dlk_X9_errorPosition 7 rfl rfl
theorem dk_X9_errorPosition_14 : tvD cX9_errorPosition 14 (.invokevirtual 62) 3 17 := tvDl_get dlk_X9_errorPosition 8 rfl rfl
theorem dk_X9_errorPosition_17 : tvJ cX9_errorPosition 17 (.ifCond .eq) 24 20 := tvJl_get dlk_X9_errorPosition 9 rfl (by decide) rfl
theorem dk_X9_errorPosition_20 : tvD cX9_errorPosition 20 (.iconst 0) 1 21 := tvDl_get dlk_X9_errorPosition 10 rfl rfl
theorem dk_X9_errorPosition_21 : tvJ cX9_errorPosition 21 .goto 28 24 := tvJl_get dlk_X9_errorPosition 11 rfl (by decide) rfl
theorem dk_X9_errorPosition_24 : tvD cX9_errorPosition 24 (.aload_n 0) 1 25 := tvDl_get dlk_X9_errorPosition 12 rfl rfl
theorem dk_X9_errorPosition_25 : tvD cX9_errorPosition 25 (.getfield 22) 3 28 := tvDl_get dlk_X9_errorPosition 13 rfl rfl
theorem dk_X9_errorPosition_28 : tvD cX9_errorPosition 28 (.ireturn) 1 29 := tvDl_get dlk_X9_errorPosition 14 rfl rfl
def dl_X9_eventKind : List (Nat × Instr × Nat) := [(0, .aload_n 0, 1), (1, .iload_n 1, 1), (2, .iconst 0, 1), (3, .invokevirtual 177, 3), (6, .i2c, 1), (7, .ireturn, 1)]
theorem dlk_X9_eventKind : tvDl cX9_eventKind dl_X9_eventKind = true := by decide +kernel
theorem dk_X9_eventKind_0 : tvD cX9_eventKind 0 (.aload_n 0) 1 1 := tvDl_get dlk_X9_eventKind 0 rfl rfl
theorem dk_X9_eventKind_1 : tvD cX9_eventKind 1 (.iload_n 1) 1 2 := tvDl_get dlk_X9_eventKind 1 rfl rfl
theorem dk_X9_eventKind_2 : tvD cX9_eventKind 2 (.iconst 0) 1 3 := tvDl_get dlk_X9_eventKind 2 rfl rfl
theorem dk_X9_eventKind_3 : tvD cX9_eventKind 3 (.invokevirtual 177) 3 6 := tvDl_get dlk_X9_eventKind 3 rfl rfl
theorem dk_X9_eventKind_6 : tvD cX9_eventKind 6 (.i2c) 1 7 := tvDl_get dlk_X9_eventKind 4 rfl rfl
theorem dk_X9_eventKind_7 : tvD cX9_eventKind 7 (.ireturn) 1 8 := tvDl_get dlk_X9_eventKind 5 rfl rfl
def dl_X9_eventNumber : List (Nat × Instr × Nat) := [(0, .aload_n 0, 1), (1, .iload_n 1, 1), (2, .iconst 2, 1), (3, .invokevirtual 177, 3), (6, .ireturn, 1)]
theorem dlk_X9_eventNumber : tvDl cX9_eventNumber dl_X9_eventNumber = true := by decide +kernel
theorem dk_X9_eventNumber_0 : tvD cX9_eventNumber 0 (.aload_n 0) 1 1 := tvDl_get dlk_X9_eventNumber 0 rfl rfl
theorem dk_X9_eventNumber_1 : tvD cX9_eventNumber 1 (.iload_n 1) 1 2 := tvDl_get dlk_X9_eventNumber 1 rfl rfl
theorem dk_X9_eventNumber_2 : tvD cX9_eventNumber 2 (.iconst 2) 1 3 := tvDl_get dlk_X9_eventNumber 2 rfl rfl
theorem dk_X9_eventNumber_3 : tvD cX9_eventNumber 3 (.invokevirtual 177) 3 6 := tvDl_get dlk_X9_eventNumber 3 rfl rfl
theorem dk_X9_eventNumber_6 : tvD cX9_eventNumber 6 (.ireturn) 1 7 := tvDl_get dlk_X9_eventNumber 4 rfl rfl
def dl_X9_eventTime : List (Nat × Instr × Nat) := [(0, .aload_n 0, 1), (1, .iload_n 1, 1), (2, .iconst 1, 1), (3, .invokevirtual 177, 3), (6, .ireturn, 1)]
theorem dlk_X9_eventTime : tvDl cX9_eventTime dl_X9_eventTime = true := by decide +kernel
theorem dk_X9_eventTime_0 : tvD cX9_eventTime 0 (.aload_n 0) 1 1 := tvDl_get dlk_X9_eventTime 0 rfl rfl
theorem dk_X9_eventTime_1 : tvD cX9_eventTime 1 (.iload_n 1) 1 2 := tvDl_get dlk_X9_eventTime 1 rfl rfl
theorem dk_X9_eventTime_2 : tvD cX9_eventTime 2 (.iconst 1) 1 3 := tvDl_get dlk_X9_eventTime 2 rfl rfl
theorem dk_X9_eventTime_3 : tvD cX9_eventTime 3 (.invokevirtual 177) 3 6 := tvDl_get dlk_X9_eventTime 3 rfl rfl
theorem dk_X9_eventTime_6 : tvD cX9_eventTime 6 (.ireturn) 1 7 := tvDl_get dlk_X9_eventTime 4 rfl rfl
def dl_X9_events : List (Nat × Instr × Nat) := [(0, .aload_n 0, 1), (1, .iconst 0, 1), (2, .putfield 38, 3), (5, .aload_n 0, 1), (6, .getfield 9, 3), (9, .bipush 11, 2), (11, .iaload, 1), (12, .ireturn, 1)]
theorem dlk_X9_events : tvDl cX9_events dl_X9_events = true := by decide +kernel
theorem dk_X9_events_0 : tvD cX9_events 0 (.aload_n 0) 1 1 := tvDl_get dlk_X9_events 0 rfl rfl
theorem dk_X9_events_1 : tvD cX9_events 1 (.iconst 0) 1 2 := tvDl_get dlk_X9_events 1 rfl rfl
theorem dk_X9_events_2 : tvD cX9_events 2 (.putfield 38) 3 5 := tvDl_get dlk_X9_events 2 rfl rfl
theorem dk_X9_events_5 : tvD cX9_events 5 (.aload_n 0) 1 6 := tvDl_get dlk_X9_events 3 rfl rfl
theorem dk_X9_events_6 : tvD cX9_events 6 (.getfield 9) 3 9 := tvDl_get dlk_X9_events 4 rfl rfl
theorem dk_X9_events_9 : tvD cX9_events 9 (.bipush 11) 2 11 := tvDl_get dlk_X9_events 5 rfl rfl
theorem dk_X9_events_11 : tvD cX9_events 11 (.iaload) 1 12 := tvDl_get dlk_X9_events 6 rfl rfl
theorem dk_X9_events_12 : tvD cX9_events 12 (.ireturn) 1 13 := tvDl_get dlk_X9_events 7 rfl rfl
def dl_X9_failedCommand : List (Nat × Instr × Nat) := [(0, .aload_n 0, 1), (1, .aload_n 0, 1), (2, .getfield 26, 3), (5, .ifCond .ge 7, 3), (8, .iconst 1, 1), (9, .goto 4, 3), (12, .iconst 0, 1), (13, .iconst 1, 1), (14, .invokevirtual 62, 3), (17, .ifCond .eq 7, 3), (20, .iconst 0, 1), (21, .goto 7, 3), (24, .aload_n 0, 1), (25, .getfield 26, 3), (28, .ireturn, 1)]
theorem dlk_X9_failedCommand : tvDl cX9_failedCommand dl_X9_failedCommand = true := by decide +kernel
theorem dk_X9_failedCommand_0 : tvD cX9_failedCommand 0 (.aload_n 0) 1 1 := tvDl_get dlk_X9_failedCommand 0 rfl rfl
theorem dk_X9_failedCommand_1 : tvD cX9_failedCommand 1 (.aload_n 0) 1 2 := tvDl_get dlk_X9_failedCommand 1 rfl rfl
theorem dk_X9_failedCommand_2 : tvD cX9_failedCommand 2 (.getfield 26) 3 5 := tvDl_get dlk_X9_failedCommand 2 rfl rfl
theorem dk_X9_failedCommand_5 : tvJ cX9_failedCommand 5 (.ifCond .ge) 12 8 := tvJl_get dlk_X9_failedCommand 3 rfl (by decide) rfl
theorem dk_X9_failedCommand_8 : tvD cX9_failedCommand 8 (.iconst 1) 1 9 := tvDl_get dlk_X9_failedCommand 4 rfl rfl
theorem dk_X9_failedCommand_9 : tvJ cX9_failedCommand 9 .goto 13 12 := tvJl_get dlk_X9_failedCommand 5 rfl (by decide) rfl
theorem dk_X9_failedCommand_12 : tvD cX9_failedCommand 12 (.iconst 0) 1 13 := tvDl_get dlk_X9_failedCommand 6 rfl rfl
theorem dk_X9_failedCommand_13 : tvD cX9_failedCommand 13 (.iconst 1) 1 14 := tvDl_get dlk_X9_failedCommand 7 rfl rfl
theorem dk_X9_failedCommand_14 : tvD cX9_failedCommand 14 (.invokevirtual 62) 3 17 := tvDl_get dlk_X9_failedCommand 8 rfl rfl
theorem dk_X9_failedCommand_17 : tvJ cX9_failedCommand 17 (.ifCond .eq) 24 20 := tvJl_get dlk_X9_failedCommand 9 rfl (by decide) rfl
theorem dk_X9_failedCommand_20 : tvD cX9_failedCommand 20 (.iconst 0) 1 21 := tvDl_get dlk_X9_failedCommand 10 rfl rfl
theorem dk_X9_failedCommand_21 : tvJ cX9_failedCommand 21 .goto 28 24 := tvJl_get dlk_X9_failedCommand 11 rfl (by decide) rfl
theorem dk_X9_failedCommand_24 : tvD cX9_failedCommand 24 (.aload_n 0) 1 25 := tvDl_get dlk_X9_failedCommand 12 rfl rfl
theorem dk_X9_failedCommand_25 : tvD cX9_failedCommand 25 (.getfield 26) 3 28 := tvDl_get dlk_X9_failedCommand 13 rfl rfl
theorem dk_X9_failedCommand_28 : tvD cX9_failedCommand 28 (.ireturn) 1 29 := tvDl_get dlk_X9_failedCommand 14 rfl rfl
def dl_X9_failureRate : List (Nat × Instr × Nat) := [(0, .aload_n 0, 1), (1, .aload_n 0, 1), (2, .getfield 9, 3), (5, .iconst 4, 1), (6, .iaload, 1), (7, .ifCond .ne 7, 3), (10, .iconst 1, 1), (11, .goto 4, 3), (14, .iconst 0, 1), (15, .iconst 1, 1), (16, .invokevirtual 62, 3), (19, .ifCond .eq 7, 3), (22, .fconst 0, 1), (23, .goto 18, 3), (26, .aload_n 0, 1), (27, .getfield 9, 3), (30, .iconst 5, 1), (31, .iaload, 1), (32, .i2f, 1), (33, .aload_n 0, 1), (34, .getfield 9, 3), (37, .iconst 4, 1), (38, .iaload, 1), (39, .i2f, 1), (40, .fdiv, 1), (41, .freturn, 1)]
theorem dlk_X9_failureRate : tvDl cX9_failureRate dl_X9_failureRate = true := by decide +kernel
theorem dk_X9_failureRate_0 : tvD cX9_failureRate 0 (.aload_n 0) 1 1 := tvDl_get dlk_X9_failureRate 0 rfl rfl
theorem dk_X9_failureRate_1 : tvD cX9_failureRate 1 (.aload_n 0) 1 2 := tvDl_get dlk_X9_failureRate 1 rfl rfl
theorem dk_X9_failureRate_2 : tvD cX9_failureRate 2 (.getfield 9) 3 5 := tvDl_get dlk_X9_failureRate 2 rfl rfl
theorem dk_X9_failureRate_5 : tvD cX9_failureRate 5 (.iconst 4) 1 6 := tvDl_get dlk_X9_failureRate 3 rfl rfl
theorem dk_X9_failureRate_6 : tvD cX9_failureRate 6 (.iaload) 1 7 := tvDl_get dlk_X9_failureRate 4 rfl rfl
theorem dk_X9_failureRate_7 : tvJ cX9_failureRate 7 (.ifCond .ne) 14 10 := tvJl_get dlk_X9_failureRate 5 rfl (by decide) rfl
theorem dk_X9_failureRate_10 : tvD cX9_failureRate 10 (.iconst 1) 1 11 := tvDl_get dlk_X9_failureRate 6 rfl rfl
theorem dk_X9_failureRate_11 : tvJ cX9_failureRate 11 .goto 15 14 := tvJl_get dlk_X9_failureRate 7 rfl (by decide) rfl
theorem dk_X9_failureRate_14 : tvD cX9_failureRate 14 (.iconst 0) 1 15 := tvDl_get dlk_X9_failureRate 8 rfl rfl
theorem dk_X9_failureRate_15 : tvD cX9_failureRate 15 (.iconst 1) 1 16 := tvDl_get dlk_X9_failureRate 9 rfl rfl
theorem dk_X9_failureRate_16 : tvD cX9_failureRate 16 (.invokevirtual 62) 3 19 := tvDl_get dlk_X9_failureRate 10 rfl rfl
theorem dk_X9_failureRate_19 : tvJ cX9_failureRate 19 (.ifCond .eq) 26 22 := tvJl_get dlk_X9_failureRate 11 rfl (by decide) rfl
theorem dk_X9_failureRate_22 : tvD cX9_failureRate 22 (.fconst 0) 1 23 := tvDl_get dlk_X9_failureRate 12 rfl rfl
theorem dk_X9_failureRate_23 : tvJ cX9_failureRate 23 .goto 41 26 := tvJl_get dlk_X9_failureRate 13 rfl (by decide) rfl
theorem dk_X9_failureRate_26 : tvD cX9_failureRate 26 (.aload_n 0) 1 27 := tvDl_get dlk_X9_failureRate 14 rfl rfl
theorem dk_X9_failureRate_27 : tvD cX9_failureRate 27 (.getfield 9) 3 30 := tvDl_get dlk_X9_failureRate 15 rfl rfl
theorem dk_X9_failureRate_30 : tvD cX9_failureRate 30 (.iconst 5) 1 31 := tvDl_get dlk_X9_failureRate 16 rfl rfl
theorem dk_X9_failureRate_31 : tvD cX9_failureRate 31 (.iaload) 1 32 := tvDl_get dlk_X9_failureRate 17 rfl rfl
theorem dk_X9_failureRate_32 : tvD cX9_failureRate 32 (.i2f) 1 33 := tvDl_get dlk_X9_failureRate 18 rfl rfl
theorem dk_X9_failureRate_33 : tvD cX9_failureRate 33 (.aload_n 0) 1 34 := tvDl_get dlk_X9_failureRate 19 rfl rfl
theorem dk_X9_failureRate_34 : tvD cX9_failureRate 34 (.getfield 9) 3 37 := tvDl_get dlk_X9_failureRate 20 rfl rfl
theorem dk_X9_failureRate_37 : tvD cX9_failureRate 37 (.iconst 4) 1 38 := tvDl_get dlk_X9_failureRate 21 rfl rfl
theorem dk_X9_failureRate_38 : tvD cX9_failureRate 38 (.iaload) 1 39 := tvDl_get dlk_X9_failureRate 22 rfl rfl
theorem dk_X9_failureRate_39 : tvD cX9_failureRate 39 (.i2f) 1 40 := tvDl_get dlk_X9_failureRate 23 rfl rfl
theorem dk_X9_failureRate_40 : tvD cX9_failureRate 40 (.fdiv) 1 41 := tvDl_get dlk_X9_failureRate 24 rfl rfl
theorem dk_X9_failureRate_41 : tvD cX9_failureRate 41 (.freturn) 1 42 := tvDl_get dlk_X9_failureRate 25 rfl rfl
def dl_X9_firstHolder : List (Nat × Instr × Nat) := [(0, .aload_n 0, 1), (1, .aload_n 0, 1), (2, .iload_n 1, 1), (3, .invokevirtual 113, 3), (6, .ifCond .ne 7, 3), (9, .iconst 1, 1), (10, .goto 4, 3), (13, .iconst 0, 1), (14, .iconst 1, 1), (15, .invokevirtual 62, 3), (18, .ifCond .ne 26, 3), (21, .aload_n 0, 1), (22, .aload_n 0, 1), (23, .iload_n 1, 1), (24, .iconst 3, 1), (25, .invokevirtual 55, 3), (28, .iconst 1, 1), (29, .if_icmp .eq 7, 3), (32, .iconst 1, 1), (33, .goto 4, 3), (36, .iconst 0, 1), (37, .iconst 2, 1), (38, .invokevirtual 62, 3), (41, .ifCond .eq 7, 3), (44, .iconst 0, 1), (45, .goto 9, 3), (48, .aload_n 0, 1), (49, .iload_n 1, 1), (50, .iconst 4, 1), (51, .invokevirtual 55, 3), (54, .ireturn, 1)]
theorem dlk_X9_firstHolder : tvDl cX9_firstHolder dl_X9_firstHolder = true := by decide +kernel
theorem dk_X9_firstHolder_0 : tvD cX9_firstHolder 0 (.aload_n 0) 1 1 := tvDl_get dlk_X9_firstHolder 0 rfl rfl
theorem dk_X9_firstHolder_1 : tvD cX9_firstHolder 1 (.aload_n 0) 1 2 := tvDl_get dlk_X9_firstHolder 1 rfl rfl
theorem dk_X9_firstHolder_2 : tvD cX9_firstHolder 2 (.iload_n 1) 1 3 := tvDl_get dlk_X9_firstHolder 2 rfl rfl
theorem dk_X9_firstHolder_3 : tvD cX9_firstHolder 3 (.invokevirtual 113) 3 6 := tvDl_get dlk_X9_firstHolder 3 rfl rfl
theorem dk_X9_firstHolder_6 : tvJ cX9_firstHolder 6 (.ifCond .ne) 13 9 := tvJl_get dlk_X9_firstHolder 4 rfl (by decide) rfl
theorem dk_X9_firstHolder_9 : tvD cX9_firstHolder 9 (.iconst 1) 1 10 := tvDl_get dlk_X9_firstHolder 5 rfl rfl
theorem dk_X9_firstHolder_10 : tvJ cX9_firstHolder 10 .goto 14 13 := tvJl_get dlk_X9_firstHolder 6 rfl (by decide) rfl
theorem dk_X9_firstHolder_13 : tvD cX9_firstHolder 13 (.iconst 0) 1 14 := tvDl_get dlk_X9_firstHolder 7 rfl rfl
theorem dk_X9_firstHolder_14 : tvD cX9_firstHolder 14 (.iconst 1) 1 15 := tvDl_get dlk_X9_firstHolder 8 rfl rfl
theorem dk_X9_firstHolder_15 : tvD cX9_firstHolder 15 (.invokevirtual 62) 3 18 := tvDl_get dlk_X9_firstHolder 9 rfl rfl
theorem dk_X9_firstHolder_18 : tvJ cX9_firstHolder 18 (.ifCond .ne) 44 21 := tvJl_get dlk_X9_firstHolder 10 rfl (by decide) rfl
theorem dk_X9_firstHolder_21 : tvD cX9_firstHolder 21 (.aload_n 0) 1 22 := tvDl_get dlk_X9_firstHolder 11 rfl rfl
theorem dk_X9_firstHolder_22 : tvD cX9_firstHolder 22 (.aload_n 0) 1 23 := tvDl_get dlk_X9_firstHolder 12 rfl rfl
theorem dk_X9_firstHolder_23 : tvD cX9_firstHolder 23 (.iload_n 1) 1 24 := tvDl_get dlk_X9_firstHolder 13 rfl rfl
theorem dk_X9_firstHolder_24 : tvD cX9_firstHolder 24 (.iconst 3) 1 25 := tvDl_get dlk_X9_firstHolder 14 rfl rfl
theorem dk_X9_firstHolder_25 : tvD cX9_firstHolder 25 (.invokevirtual 55) 3 28 := tvDl_get dlk_X9_firstHolder 15 rfl rfl
theorem dk_X9_firstHolder_28 : tvD cX9_firstHolder 28 (.iconst 1) 1 29 := tvDl_get dlk_X9_firstHolder 16 rfl rfl
theorem dk_X9_firstHolder_29 : tvJ cX9_firstHolder 29 (.if_icmp .eq) 36 32 := tvJl_get dlk_X9_firstHolder 17 rfl (by decide) rfl
theorem dk_X9_firstHolder_32 : tvD cX9_firstHolder 32 (.iconst 1) 1 33 := tvDl_get dlk_X9_firstHolder 18 rfl rfl
theorem dk_X9_firstHolder_33 : tvJ cX9_firstHolder 33 .goto 37 36 := tvJl_get dlk_X9_firstHolder 19 rfl (by decide) rfl
theorem dk_X9_firstHolder_36 : tvD cX9_firstHolder 36 (.iconst 0) 1 37 := tvDl_get dlk_X9_firstHolder 20 rfl rfl
theorem dk_X9_firstHolder_37 : tvD cX9_firstHolder 37 (.iconst 2) 1 38 := tvDl_get dlk_X9_firstHolder 21 rfl rfl
theorem dk_X9_firstHolder_38 : tvD cX9_firstHolder 38 (.invokevirtual 62) 3 41 := tvDl_get dlk_X9_firstHolder 22 rfl rfl
theorem dk_X9_firstHolder_41 : tvJ cX9_firstHolder 41 (.ifCond .eq) 48 44 := tvJl_get dlk_X9_firstHolder 23 rfl (by decide) rfl
theorem dk_X9_firstHolder_44 : tvD cX9_firstHolder 44 (.iconst 0) 1 45 := tvDl_get dlk_X9_firstHolder 24 rfl rfl
theorem dk_X9_firstHolder_45 : tvJ cX9_firstHolder 45 .goto 54 48 := tvJl_get dlk_X9_firstHolder 25 rfl (by decide) rfl
theorem dk_X9_firstHolder_48 : tvD cX9_firstHolder 48 (.aload_n 0) 1 49 := tvDl_get dlk_X9_firstHolder 26 rfl rfl
theorem dk_X9_firstHolder_49 : tvD cX9_firstHolder 49 (.iload_n 1) 1 50 := tvDl_get dlk_X9_firstHolder 27 rfl rfl
theorem dk_X9_firstHolder_50 : tvD cX9_firstHolder 50 (.iconst 4) 1 51 := tvDl_get dlk_X9_firstHolder 28 rfl rfl
theorem dk_X9_firstHolder_51 : tvD cX9_firstHolder 51 (.invokevirtual 55) 3 54 := tvDl_get dlk_X9_firstHolder 29 rfl rfl
theorem dk_X9_firstHolder_54 : tvD cX9_firstHolder 54 (.ireturn) 1 55 := tvDl_get dlk_X9_firstHolder 30 rfl rfl
def dl_X9_holders : List (Nat × Instr × Nat) := [(0, .aload_n 0, 1), (1, .iconst 0, 1), (2, .putfield 38, 3), (5, .aload_n 0, 1), (6, .getfield 9, 3), (9, .bipush 9, 2), (11, .iaload, 1), (12, .ireturn, 1)]
theorem dlk_X9_holders : tvDl cX9_holders dl_X9_holders = true := by decide +kernel
theorem dk_X9_holders_0 : tvD cX9_holders 0 (.aload_n 0) 1 1 := tvDl_get dlk_X9_holders 0 rfl rfl
theorem dk_X9_holders_1 : tvD cX9_holders 1 (.iconst 0) 1 2 := tvDl_get dlk_X9_holders 1 rfl rfl
theorem dk_X9_holders_2 : tvD cX9_holders 2 (.putfield 38) 3 5 := tvDl_get dlk_X9_holders 2 rfl rfl
theorem dk_X9_holders_5 : tvD cX9_holders 5 (.aload_n 0) 1 6 := tvDl_get dlk_X9_holders 3 rfl rfl
theorem dk_X9_holders_6 : tvD cX9_holders 6 (.getfield 9) 3 9 := tvDl_get dlk_X9_holders 4 rfl rfl
theorem dk_X9_holders_9 : tvD cX9_holders 9 (.bipush 9) 2 11 := tvDl_get dlk_X9_holders 5 rfl rfl
theorem dk_X9_holders_11 : tvD cX9_holders 11 (.iaload) 1 12 := tvDl_get dlk_X9_holders 6 rfl rfl
theorem dk_X9_holders_12 : tvD cX9_holders 12 (.ireturn) 1 13 := tvDl_get dlk_X9_holders 7 rfl rfl
def dl_X9_holds : List (Nat × Instr × Nat) := [(0, .aload_n 0, 1), (1, .iload_n 1, 1), (2, .iconst 0, 1), (3, .sipush 999, 3), (6, .invokestatic 51, 3), (9, .ifCond .ne 7, 3), (12, .iconst 1, 1), (13, .goto 4, 3), (16, .iconst 0, 1), (17, .iconst 1, 1), (18, .invokevirtual 62, 3), (21, .ifCond .ne 28, 3), (24, .aload_n 0, 1), (25, .aload_n 0, 1), (26, .getfield 9, 3), (29, .bipush 9, 2), (31, .iaload, 1), (32, .bipush 8, 2), (34, .if_icmp .ne 7, 3), (37, .iconst 1, 1), (38, .goto 4, 3), (41, .iconst 0, 1), (42, .iconst 2, 1), (43, .invokevirtual 62, 3), (46, .ifCond .eq 5, 3), (49, .iconst 0, 1), (50, .ireturn, 1), (51, .aload_n 0, 1), (52, .aload_n 0, 1), (53, .getfield 9, 3), (56, .bipush 9, 2), (58, .iaload, 1), (59, .iconst 0, 1), (60, .iload_n 1, 1), (61, .invokevirtual 66, 3), (64, .aload_n 0, 1), (65, .getfield 9, 3), (68, .bipush 9, 2), (70, .dup2, 1), (71, .iaload, 1), (72, .iconst 1, 1), (73, .iadd, 1), (74, .iastore, 1), (75, .aload_n 0, 1), (76, .getfield 9, 3), (79, .bipush 9, 2), (81, .iaload, 1), (82, .iconst 1, 1), (83, .isub, 1), (84, .ireturn, 1)]
theorem dlk_X9_holds : tvDl cX9_holds dl_X9_holds = true := by decide +kernel
theorem dk_X9_holds_0 : tvD cX9_holds 0 (.aload_n 0) 1 1 := tvDl_get dlk_X9_holds 0 rfl rfl
theorem dk_X9_holds_1 : tvD cX9_holds 1 (.iload_n 1) 1 2 := tvDl_get dlk_X9_holds 1 rfl rfl
theorem dk_X9_holds_2 : tvD cX9_holds 2 (.iconst 0) 1 3 := tvDl_get dlk_X9_holds 2 rfl rfl
theorem dk_X9_holds_3 : tvD cX9_holds 3 (.sipush 999) 3 6 := tvDl_get dlk_X9_holds 3 rfl rfl
theorem dk_X9_holds_6 : tvD cX9_holds 6 (.invokestatic 51) 3 9 := tvDl_get dlk_X9_holds 4 rfl rfl
theorem dk_X9_holds_9 : tvJ cX9_holds 9 (.ifCond .ne) 16 12 := tvJl_get dlk_X9_holds 5 rfl (by decide) rfl
theorem dk_X9_holds_12 : tvD cX9_holds 12 (.iconst 1) 1 13 := tvDl_get dlk_X9_holds 6 rfl rfl
theorem dk_X9_holds_13 : tvJ cX9_holds 13 .goto 17 16 := tvJl_get dlk_X9_holds 7 rfl (by decide) rfl
theorem dk_X9_holds_16 : tvD cX9_holds 16 (.iconst 0) 1 17 := tvDl_get dlk_X9_holds 8 rfl rfl
theorem dk_X9_holds_17 : tvD cX9_holds 17 (.iconst 1) 1 18 := tvDl_get dlk_X9_holds 9 rfl rfl
theorem dk_X9_holds_18 : tvD cX9_holds 18 (.invokevirtual 62) 3 21 := tvDl_get dlk_X9_holds 10 rfl rfl
theorem dk_X9_holds_21 : tvJ cX9_holds 21 (.ifCond .ne) 49 24 := tvJl_get dlk_X9_holds 11 rfl (by decide) rfl
theorem dk_X9_holds_24 : tvD cX9_holds 24 (.aload_n 0) 1 25 := tvDl_get dlk_X9_holds 12 rfl rfl
theorem dk_X9_holds_25 : tvD cX9_holds 25 (.aload_n 0) 1 26 := tvDl_get dlk_X9_holds 13 rfl rfl
theorem dk_X9_holds_26 : tvD cX9_holds 26 (.getfield 9) 3 29 := tvDl_get dlk_X9_holds 14 rfl rfl
theorem dk_X9_holds_29 : tvD cX9_holds 29 (.bipush 9) 2 31 := tvDl_get dlk_X9_holds 15 rfl rfl
theorem dk_X9_holds_31 : tvD cX9_holds 31 (.iaload) 1 32 := tvDl_get dlk_X9_holds 16 rfl rfl
theorem dk_X9_holds_32 : tvD cX9_holds 32 (.bipush 8) 2 34 := tvDl_get dlk_X9_holds 17 rfl rfl
theorem dk_X9_holds_34 : tvJ cX9_holds 34 (.if_icmp .ne) 41 37 := tvJl_get dlk_X9_holds 18 rfl (by decide) rfl
theorem dk_X9_holds_37 : tvD cX9_holds 37 (.iconst 1) 1 38 := tvDl_get dlk_X9_holds 19 rfl rfl
theorem dk_X9_holds_38 : tvJ cX9_holds 38 .goto 42 41 := tvJl_get dlk_X9_holds 20 rfl (by decide) rfl
theorem dk_X9_holds_41 : tvD cX9_holds 41 (.iconst 0) 1 42 := tvDl_get dlk_X9_holds 21 rfl rfl
theorem dk_X9_holds_42 : tvD cX9_holds 42 (.iconst 2) 1 43 := tvDl_get dlk_X9_holds 22 rfl rfl
theorem dk_X9_holds_43 : tvD cX9_holds 43 (.invokevirtual 62) 3 46 := tvDl_get dlk_X9_holds 23 rfl rfl
theorem dk_X9_holds_46 : tvJ cX9_holds 46 (.ifCond .eq) 51 49 := tvJl_get dlk_X9_holds 24 rfl (by decide) rfl
theorem dk_X9_holds_49 : tvD cX9_holds 49 (.iconst 0) 1 50 := tvDl_get dlk_X9_holds 25 rfl rfl
theorem dk_X9_holds_50 : tvD cX9_holds 50 (.ireturn) 1 51 := tvDl_get dlk_X9_holds 26 rfl rfl
theorem dk_X9_holds_51 : tvD cX9_holds 51 (.aload_n 0) 1 52 := tvDl_get dlk_X9_holds 27 rfl rfl
theorem dk_X9_holds_52 : tvD cX9_holds 52 (.aload_n 0) 1 53 := tvDl_get dlk_X9_holds 28 rfl rfl
theorem dk_X9_holds_53 : tvD cX9_holds 53 (.getfield 9) 3 56 := tvDl_get dlk_X9_holds 29 rfl rfl
theorem dk_X9_holds_56 : tvD cX9_holds 56 (.bipush 9) 2 58 := tvDl_get dlk_X9_holds 30 rfl rfl
theorem dk_X9_holds_58 : tvD cX9_holds 58 (.iaload) 1 59 := tvDl_get dlk_X9_holds 31 rfl rfl
theorem dk_X9_holds_59 : tvD cX9_holds 59 (.iconst 0) 1 60 := tvDl_get dlk_X9_holds 32 rfl rfl
theorem dk_X9_holds_60 : tvD cX9_holds 60 (.iload_n 1) 1 61 := tvDl_get dlk_X9_holds 33 rfl rfl
theorem dk_X9_holds_61 : tvD cX9_holds 61 (.invokevirtual 66) 3 64 := tvDl_get dlk_X9_holds 34 rfl rfl
theorem dk_X9_holds_64 : tvD cX9_holds 64 (.aload_n 0) 1 65 := tvDl_get dlk_X9_holds 35 rfl rfl
theorem dk_X9_holds_65 : tvD cX9_holds 65 (.getfield 9) 3 68 := tvDl_get dlk_X9_holds 36 rfl rfl
theorem dk_X9_holds_68 : tvD cX9_holds 68 (.bipush 9) 2 70 := tvDl_get dlk_X9_holds 37 rfl rfl
theorem dk_X9_holds_70 : tvD cX9_holds 70 (.dup2) 1 71 := tvDl_get dlk_X9_holds 38 rfl rfl
theorem dk_X9_holds_71 : tvD cX9_holds 71 (.iaload) 1 72 := tvDl_get dlk_X9_holds 39 rfl rfl
theorem dk_X9_holds_72 : tvD cX9_holds 72 (.iconst 1) 1 73 := tvDl_get dlk_X9_holds 40 rfl rfl
theorem dk_X9_holds_73 : tvD cX9_holds 73 (.iadd) 1 74 := tvDl_get dlk_X9_holds 41 rfl rfl
theorem dk_X9_holds_74 : tvD cX9_holds 74 (.iastore) 1 75 := tvDl_get dlk_X9_holds 42 rfl rfl
theorem dk_X9_holds_75 : tvD cX9_holds 75 (.aload_n 0) 1 76 := tvDl_get dlk_X9_holds 43 rfl rfl
theorem dk_X9_holds_76 : tvD cX9_holds 76 (.getfield 9) 3 79 := tvDl_get dlk_X9_holds 44 rfl rfl
theorem dk_X9_holds_79 : tvD cX9_holds 79 (.bipush 9) 2 81 := tvDl_get dlk_X9_holds 45 rfl rfl
theorem dk_X9_holds_81 : tvD cX9_holds 81 (.iaload) 1 82 := tvDl_get dlk_X9_holds 46 rfl rfl
theorem dk_X9_holds_82 : tvD cX9_holds 82 (.iconst 1) 1 83 := tvDl_get dlk_X9_holds 47 rfl rfl
theorem dk_X9_holds_83 : tvD cX9_holds 83 (.isub) 1 84 := tvDl_get dlk_X9_holds 48 rfl rfl
theorem dk_X9_holds_84 : tvD cX9_holds 84 (.ireturn) 1 85 := tvDl_get dlk_X9_holds 49 rfl rfl
def dl_X9_isBox : List (Nat × Instr × Nat) := [(0, .iload_n 1, 1), (1, .iconst 0, 1), (2, .aload_n 0, 1), (3, .getfield 9, 3), (6, .bipush 10, 2), (8, .iaload, 1), (9, .iconst 1, 1), (10, .isub, 1), (11, .invokestatic 51, 3), (14, .ireturn, 1)]
theorem dlk_X9_isBox : tvDl cX9_isBox dl_X9_isBox = true := by decide +kernel
theorem dk_X9_isBox_0 : tvD cX9_isBox 0 (.iload_n 1) 1 1 := tvDl_get dlk_X9_isBox 0 rfl rfl
theorem dk_X9_isBox_1 : tvD cX9_isBox 1 (.iconst 0) 1 2 := tvDl_get dlk_X9_isBox 1 rfl rfl
theorem dk_X9_isBox_2 : tvD cX9_isBox 2 (.aload_n 0) 1 3 := tvDl_get dlk_X9_isBox 2 rfl rfl
theorem dk_X9_isBox_3 : tvD cX9_isBox 3 (.getfield 9) 3 6 := tvDl_get dlk_X9_isBox 3 rfl rfl
theorem dk_X9_isBox_6 : tvD cX9_isBox 6 (.bipush 10) 2 8 := tvDl_get dlk_X9_isBox 4 rfl rfl
theorem dk_X9_isBox_8 : tvD cX9_isBox 8 (.iaload) 1 9 := tvDl_get dlk_X9_isBox 5 rfl rfl
theorem dk_X9_isBox_9 : tvD cX9_isBox 9 (.iconst 1) 1 10 := tvDl_get dlk_X9_isBox 6 rfl rfl
theorem dk_X9_isBox_10 : tvD cX9_isBox 10 (.isub) 1 11 := tvDl_get dlk_X9_isBox 7 rfl rfl
theorem dk_X9_isBox_11 : tvD cX9_isBox 11 (.invokestatic 51) 3 14 := tvDl_get dlk_X9_isBox 8 rfl rfl
theorem dk_X9_isBox_14 : tvD cX9_isBox 14 (.ireturn) 1 15 := tvDl_get dlk_X9_isBox 9 rfl rfl
def dl_X9_isFirst : List (Nat × Instr × Nat) := [(0, .iload_n 0, 1), (1, .bipush 104, 2), (3, .if_icmp .eq 33, 3), (6, .iload_n 0, 1), (7, .bipush 98, 2), (9, .if_icmp .eq 27, 3), (12, .iload_n 0, 1), (13, .bipush 116, 2), (15, .if_icmp .eq 21, 3), (18, .iload_n 0, 1), (19, .bipush 99, 2), (21, .if_icmp .eq 15, 3), (24, .iload_n 0, 1), (25, .bipush 112, 2), (27, .if_icmp .eq 9, 3), (30, .iload_n 0, 1), (31, .bipush 119, 2), (33, .if_icmp .ne 7, 3), (36, .iconst 1, 1), (37, .goto 4, 3), (40, .iconst 0, 1), (41, .ireturn, 1)]
theorem dlk_X9_isFirst : tvDl cX9_isFirst dl_X9_isFirst = true := by decide +kernel
theorem dk_X9_isFirst_0 : tvD cX9_isFirst 0 (.iload_n 0) 1 1 := tvDl_get dlk_X9_isFirst 0 rfl rfl
theorem dk_X9_isFirst_1 : tvD cX9_isFirst 1 (.bipush 104) 2 3 := tvDl_get dlk_X9_isFirst 1 rfl rfl
theorem dk_X9_isFirst_3 : tvJ cX9_isFirst 3 (.if_icmp .eq) 36 6 := tvJl_get dlk_X9_isFirst 2 rfl (by decide) rfl
theorem dk_X9_isFirst_6 : tvD cX9_isFirst 6 (.iload_n 0) 1 7 := tvDl_get dlk_X9_isFirst 3 rfl rfl
theorem dk_X9_isFirst_7 : tvD cX9_isFirst 7 (.bipush 98) 2 9 := tvDl_get dlk_X9_isFirst 4 rfl rfl
theorem dk_X9_isFirst_9 : tvJ cX9_isFirst 9 (.if_icmp .eq) 36 12 := tvJl_get dlk_X9_isFirst 5 rfl (by decide) rfl
theorem dk_X9_isFirst_12 : tvD cX9_isFirst 12 (.iload_n 0) 1 13 := tvDl_get dlk_X9_isFirst 6 rfl rfl
theorem dk_X9_isFirst_13 : tvD cX9_isFirst 13 (.bipush 116) 2 15 := tvDl_get dlk_X9_isFirst 7 rfl rfl
theorem dk_X9_isFirst_15 : tvJ cX9_isFirst 15 (.if_icmp .eq) 36 18 := tvJl_get dlk_X9_isFirst 8 rfl (by decide) rfl
theorem dk_X9_isFirst_18 : tvD cX9_isFirst 18 (.iload_n 0) 1 19 := tvDl_get dlk_X9_isFirst 9 rfl rfl
theorem dk_X9_isFirst_19 : tvD cX9_isFirst 19 (.bipush 99) 2 21 := tvDl_get dlk_X9_isFirst 10 rfl rfl
theorem dk_X9_isFirst_21 : tvJ cX9_isFirst 21 (.if_icmp .eq) 36 24 := tvJl_get dlk_X9_isFirst 11 rfl (by decide) rfl
theorem dk_X9_isFirst_24 : tvD cX9_isFirst 24 (.iload_n 0) 1 25 := tvDl_get dlk_X9_isFirst 12 rfl rfl
theorem dk_X9_isFirst_25 : tvD cX9_isFirst 25 (.bipush 112) 2 27 := tvDl_get dlk_X9_isFirst 13 rfl rfl
theorem dk_X9_isFirst_27 : tvJ cX9_isFirst 27 (.if_icmp .eq) 36 30 := tvJl_get dlk_X9_isFirst 14 rfl (by decide) rfl
theorem dk_X9_isFirst_30 : tvD cX9_isFirst 30 (.iload_n 0) 1 31 := tvDl_get dlk_X9_isFirst 15 rfl rfl
theorem dk_X9_isFirst_31 : tvD cX9_isFirst 31 (.bipush 119) 2 33 := tvDl_get dlk_X9_isFirst 16 rfl rfl
theorem dk_X9_isFirst_33 : tvJ cX9_isFirst 33 (.if_icmp .ne) 40 36 := tvJl_get dlk_X9_isFirst 17 rfl (by decide) rfl
theorem dk_X9_isFirst_36 : tvD cX9_isFirst 36 (.iconst 1) 1 37 := tvDl_get dlk_X9_isFirst 18 rfl rfl
theorem dk_X9_isFirst_37 : tvJ cX9_isFirst 37 .goto 41 40 := tvJl_get dlk_X9_isFirst 19 rfl (by decide) rfl
theorem dk_X9_isFirst_40 : tvD cX9_isFirst 40 (.iconst 0) 1 41 := tvDl_get dlk_X9_isFirst 20 rfl rfl
theorem dk_X9_isFirst_41 : tvD cX9_isFirst 41 (.ireturn) 1 42 := tvDl_get dlk_X9_isFirst 21 rfl rfl
def dl_X9_isHolder : List (Nat × Instr × Nat) := [(0, .iload_n 1, 1), (1, .iconst 0, 1), (2, .aload_n 0, 1), (3, .getfield 9, 3), (6, .bipush 9, 2), (8, .iaload, 1), (9, .iconst 1, 1), (10, .isub, 1), (11, .invokestatic 51, 3), (14, .ireturn, 1)]
theorem dlk_X9_isHolder : tvDl cX9_isHolder dl_X9_isHolder = true := by decide +kernel
theorem dk_X9_isHolder_0 : tvD cX9_isHolder 0 (.iload_n 1) 1 1 := tvDl_get dlk_X9_isHolder 0 rfl rfl
theorem dk_X9_isHolder_1 : tvD cX9_isHolder 1 (.iconst 0) 1 2 := tvDl_get dlk_X9_isHolder 1 rfl rfl
theorem dk_X9_isHolder_2 : tvD cX9_isHolder 2 (.aload_n 0) 1 3 := tvDl_get dlk_X9_isHolder 2 rfl rfl
theorem dk_X9_isHolder_3 : tvD cX9_isHolder 3 (.getfield 9) 3 6 := tvDl_get dlk_X9_isHolder 3 rfl rfl
theorem dk_X9_isHolder_6 : tvD cX9_isHolder 6 (.bipush 9) 2 8 := tvDl_get dlk_X9_isHolder 4 rfl rfl
theorem dk_X9_isHolder_8 : tvD cX9_isHolder 8 (.iaload) 1 9 := tvDl_get dlk_X9_isHolder 5 rfl rfl
theorem dk_X9_isHolder_9 : tvD cX9_isHolder 9 (.iconst 1) 1 10 := tvDl_get dlk_X9_isHolder 6 rfl rfl
theorem dk_X9_isHolder_10 : tvD cX9_isHolder 10 (.isub) 1 11 := tvDl_get dlk_X9_isHolder 7 rfl rfl
theorem dk_X9_isHolder_11 : tvD cX9_isHolder 11 (.invokestatic 51) 3 14 := tvDl_get dlk_X9_isHolder 8 rfl rfl
theorem dk_X9_isHolder_14 : tvD cX9_isHolder 14 (.ireturn) 1 15 := tvDl_get dlk_X9_isHolder 9 rfl rfl
def dl_X9_isIn : List (Nat × Instr × Nat) := [(0, .iload_n 0, 1), (1, .iload_n 1, 1), (2, .if_icmp .lt 12, 3), (5, .iload_n 0, 1), (6, .iload_n 2, 1), (7, .if_icmp .gt 7, 3), (10, .iconst 1, 1), (11, .goto 4, 3), (14, .iconst 0, 1), (15, .ireturn, 1)]
theorem dlk_X9_isIn : tvDl cX9_isIn dl_X9_isIn = true := by decide +kernel
theorem dk_X9_isIn_0 : tvD cX9_isIn 0 (.iload_n 0) 1 1 := tvDl_get dlk_X9_isIn 0 rfl rfl
theorem dk_X9_isIn_1 : tvD cX9_isIn 1 (.iload_n 1) 1 2 := tvDl_get dlk_X9_isIn 1 rfl rfl
theorem dk_X9_isIn_2 : tvJ cX9_isIn 2 (.if_icmp .lt) 14 5 := tvJl_get dlk_X9_isIn 2 rfl (by decide) rfl
theorem dk_X9_isIn_5 : tvD cX9_isIn 5 (.iload_n 0) 1 6 := tvDl_get dlk_X9_isIn 3 rfl rfl
theorem dk_X9_isIn_6 : tvD cX9_isIn 6 (.iload_n 2) 1 7 := tvDl_get dlk_X9_isIn 4 rfl rfl
theorem dk_X9_isIn_7 : tvJ cX9_isIn 7 (.if_icmp .gt) 14 10 := tvJl_get dlk_X9_isIn 5 rfl (by decide) rfl
theorem dk_X9_isIn_10 : tvD cX9_isIn 10 (.iconst 1) 1 11 := tvDl_get dlk_X9_isIn 6 rfl rfl
theorem dk_X9_isIn_11 : tvJ cX9_isIn 11 .goto 15 14 := tvJl_get dlk_X9_isIn 7 rfl (by decide) rfl
theorem dk_X9_isIn_14 : tvD cX9_isIn 14 (.iconst 0) 1 15 := tvDl_get dlk_X9_isIn 8 rfl rfl
theorem dk_X9_isIn_15 : tvD cX9_isIn 15 (.ireturn) 1 16 := tvDl_get dlk_X9_isIn 9 rfl rfl
def dl_X9_isLowTide : List (Nat × Instr × Nat) := [(0, .aload_n 0, 1), (1, .iconst 0, 1), (2, .putfield 38, 3), (5, .aload_n 0, 1), (6, .aload_n 0, 1), (7, .getfield 9, 3), (10, .iconst 0, 1), (11, .iaload, 1), (12, .invokevirtual 126, 3), (15, .ireturn, 1)]
theorem dlk_X9_isLowTide : tvDl cX9_isLowTide dl_X9_isLowTide = true := by decide +kernel
theorem dk_X9_isLowTide_0 : tvD cX9_isLowTide 0 (.aload_n 0) 1 1 := tvDl_get dlk_X9_isLowTide 0 rfl rfl
theorem dk_X9_isLowTide_1 : tvD cX9_isLowTide 1 (.iconst 0) 1 2 := tvDl_get dlk_X9_isLowTide 1 rfl rfl
theorem dk_X9_isLowTide_2 : tvD cX9_isLowTide 2 (.putfield 38) 3 5 := tvDl_get dlk_X9_isLowTide 2 rfl rfl
theorem dk_X9_isLowTide_5 : tvD cX9_isLowTide 5 (.aload_n 0) 1 6 := tvDl_get dlk_X9_isLowTide 3 rfl rfl
theorem dk_X9_isLowTide_6 : tvD cX9_isLowTide 6 (.aload_n 0) 1 7 := tvDl_get dlk_X9_isLowTide 4 rfl rfl
theorem dk_X9_isLowTide_7 : tvD cX9_isLowTide 7 (.getfield 9) 3 10 := tvDl_get dlk_X9_isLowTide 5 rfl rfl
theorem dk_X9_isLowTide_10 : tvD cX9_isLowTide 10 (.iconst 0) 1 11 := tvDl_get dlk_X9_isLowTide 6 rfl rfl
theorem dk_X9_isLowTide_11 : tvD cX9_isLowTide 11 (.iaload) 1 12 := tvDl_get dlk_X9_isLowTide 7 rfl rfl
theorem dk_X9_isLowTide_12 : tvD cX9_isLowTide 12 (.invokevirtual 126) 3 15 := tvDl_get dlk_X9_isLowTide 8 rfl rfl
theorem dk_X9_isLowTide_15 : tvD cX9_isLowTide 15 (.ireturn) 1 16 := tvDl_get dlk_X9_isLowTide 9 rfl rfl
def dl_X9_isNotPending : List (Nat × Instr × Nat) := [(0, .aload_n 0, 1), (1, .aload_n 0, 1), (2, .iload_n 1, 1), (3, .invokevirtual 113, 3), (6, .ifCond .ne 7, 3), (9, .iconst 1, 1), (10, .goto 4, 3), (13, .iconst 0, 1), (14, .iconst 1, 1), (15, .invokevirtual 62, 3), (18, .ifCond .ne 26, 3), (21, .aload_n 0, 1), (22, .aload_n 0, 1), (23, .iload_n 1, 1), (24, .iconst 3, 1), (25, .invokevirtual 55, 3), (28, .iconst 2, 1), (29, .if_icmp .eq 7, 3), (32, .iconst 1, 1), (33, .goto 4, 3), (36, .iconst 0, 1), (37, .iconst 2, 1), (38, .invokevirtual 62, 3), (41, .ifCond .eq 7, 3), (44, .iconst 1, 1), (45, .goto 4, 3), (48, .iconst 0, 1), (49, .ireturn, 1)]
theorem dlk_X9_isNotPending : tvDl cX9_isNotPending dl_X9_isNotPending = true := by decide +kernel
theorem dk_X9_isNotPending_0 : tvD cX9_isNotPending 0 (.aload_n 0) 1 1 := tvDl_get dlk_X9_isNotPending 0 rfl rfl
theorem dk_X9_isNotPending_1 : tvD cX9_isNotPending 1 (.aload_n 0) 1 2 := tvDl_get dlk_X9_isNotPending 1 rfl rfl
theorem dk_X9_isNotPending_2 : tvD cX9_isNotPending 2 (.iload_n 1) 1 3 := tvDl_get dlk_X9_isNotPending 2 rfl rfl
theorem dk_X9_isNotPending_3 : tvD cX9_isNotPending 3 (.invokevirtual 113) 3 6 := tvDl_get dlk_X9_isNotPending 3 rfl rfl
theorem dk_X9_isNotPending_6 : tvJ cX9_isNotPending 6 (.ifCond .ne) 13 9 := tvJl_get dlk_X9_isNotPending 4 rfl (by decide) rfl
theorem dk_X9_isNotPending_9 : tvD cX9_isNotPending 9 (.iconst 1) 1 10 := tvDl_get dlk_X9_isNotPending 5 rfl rfl
theorem dk_X9_isNotPending_10 : tvJ cX9_isNotPending 10 .goto 14 13 := tvJl_get dlk_X9_isNotPending 6 rfl (by decide) rfl
theorem dk_X9_isNotPending_13 : tvD cX9_isNotPending 13 (.iconst 0) 1 14 := tvDl_get dlk_X9_isNotPending 7 rfl rfl
theorem dk_X9_isNotPending_14 : tvD cX9_isNotPending 14 (.iconst 1) 1 15 := tvDl_get dlk_X9_isNotPending 8 rfl rfl
theorem dk_X9_isNotPending_15 : tvD cX9_isNotPending 15 (.invokevirtual 62) 3 18 := tvDl_get dlk_X9_isNotPending 9 rfl rfl
theorem dk_X9_isNotPending_18 : tvJ cX9_isNotPending 18 (.ifCond .ne) 44 21 := tvJl_get dlk_X9_isNotPending 10 rfl (by decide) rfl
theorem dk_X9_isNotPending_21 : tvD cX9_isNotPending 21 (.aload_n 0) 1 22 := tvDl_get dlk_X9_isNotPending 11 rfl rfl
theorem dk_X9_isNotPending_22 : tvD cX9_isNotPending 22 (.aload_n 0) 1 23 := tvDl_get dlk_X9_isNotPending 12 rfl rfl
theorem dk_X9_isNotPending_23 : tvD cX9_isNotPending 23 (.iload_n 1) 1 24 := tvDl_get dlk_X9_isNotPending 13 rfl rfl
theorem dk_X9_isNotPending_24 : tvD cX9_isNotPending 24 (.iconst 3) 1 25 := tvDl_get dlk_X9_isNotPending 14 rfl rfl
theorem dk_X9_isNotPending_25 : tvD cX9_isNotPending 25 (.invokevirtual 55) 3 28 := tvDl_get dlk_X9_isNotPending 15 rfl rfl
theorem dk_X9_isNotPending_28 : tvD cX9_isNotPending 28 (.iconst 2) 1 29 := tvDl_get dlk_X9_isNotPending 16 rfl rfl
theorem dk_X9_isNotPending_29 : tvJ cX9_isNotPending 29 (.if_icmp .eq) 36 32 := tvJl_get dlk_X9_isNotPending 17 rfl (by decide) rfl
theorem dk_X9_isNotPending_32 : tvD cX9_isNotPending 32 (.iconst 1) 1 33 := tvDl_get dlk_X9_isNotPending 18 rfl rfl
theorem dk_X9_isNotPending_33 : tvJ cX9_isNotPending 33 .goto 37 36 := tvJl_get dlk_X9_isNotPending 19 rfl (by decide) rfl
theorem dk_X9_isNotPending_36 : tvD cX9_isNotPending 36 (.iconst 0) 1 37 := tvDl_get dlk_X9_isNotPending 20 rfl rfl
theorem dk_X9_isNotPending_37 : tvD cX9_isNotPending 37 (.iconst 2) 1 38 := tvDl_get dlk_X9_isNotPending 21 rfl rfl
theorem dk_X9_isNotPending_38 : tvD cX9_isNotPending 38 (.invokevirtual 62) 3 41 := tvDl_get dlk_X9_isNotPending 22 rfl rfl
theorem dk_X9_isNotPending_41 : tvJ cX9_isNotPending 41 (.ifCond .eq) 48 44 := tvJl_get dlk_X9_isNotPending 23 rfl (by decide) rfl
theorem dk_X9_isNotPending_44 : tvD cX9_isNotPending 44 (.iconst 1) 1 45 := tvDl_get dlk_X9_isNotPending 24 rfl rfl
theorem dk_X9_isNotPending_45 : tvJ cX9_isNotPending 45 .goto 49 48 := tvJl_get dlk_X9_isNotPending 25 rfl (by decide) rfl
theorem dk_X9_isNotPending_48 : tvD cX9_isNotPending 48 (.iconst 0) 1 49 := tvDl_get dlk_X9_isNotPending 26 rfl rfl
theorem dk_X9_isNotPending_49 : tvD cX9_isNotPending 49 (.ireturn) 1 50 := tvDl_get dlk_X9_isNotPending 27 rfl rfl
def dl_X9_isOf : List (Nat × Instr × Nat) := [(0, .aload_n 0, 1), (1, .iload_n 1, 1), (2, .iconst 0, 1), (3, .invokevirtual 55, 3), (6, .iload_n 2, 1), (7, .if_icmp .eq 13, 3), (10, .aload_n 0, 1), (11, .iload_n 1, 1), (12, .iconst 1, 1), (13, .invokevirtual 55, 3), (16, .iload_n 2, 1), (17, .if_icmp .ne 7, 3), (20, .iconst 1, 1), (21, .goto 4, 3), (24, .iconst 0, 1), (25, .ireturn, 1)]
theorem dlk_X9_isOf : tvDl cX9_isOf dl_X9_isOf = true := by decide +kernel
theorem dk_X9_isOf_0 : tvD cX9_isOf 0 (.aload_n 0) 1 1 := tvDl_get dlk_X9_isOf 0 rfl rfl
theorem dk_X9_isOf_1 : tvD cX9_isOf 1 (.iload_n 1) 1 2 := tvDl_get dlk_X9_isOf 1 rfl rfl
theorem dk_X9_isOf_2 : tvD cX9_isOf 2 (.iconst 0) 1 3 := tvDl_get dlk_X9_isOf 2 rfl rfl
theorem dk_X9_isOf_3 : tvD cX9_isOf 3 (.invokevirtual 55) 3 6 := tvDl_get dlk_X9_isOf 3 rfl rfl
theorem dk_X9_isOf_6 : tvD cX9_isOf 6 (.iload_n 2) 1 7 := tvDl_get dlk_X9_isOf 4 rfl rfl
theorem dk_X9_isOf_7 : tvJ cX9_isOf 7 (.if_icmp .eq) 20 10 := tvJl_get dlk_X9_isOf 5 rfl (by decide) rfl
theorem dk_X9_isOf_10 : tvD cX9_isOf 10 (.aload_n 0) 1 11 := tvDl_get dlk_X9_isOf 6 rfl rfl
theorem dk_X9_isOf_11 : tvD cX9_isOf 11 (.iload_n 1) 1 12 := tvDl_get dlk_X9_isOf 7 rfl rfl
theorem dk_X9_isOf_12 : tvD cX9_isOf 12 (.iconst 1) 1 13 := tvDl_get dlk_X9_isOf 8 rfl rfl
theorem dk_X9_isOf_13 : tvD cX9_isOf 13 (.invokevirtual 55) 3 16 := tvDl_get dlk_X9_isOf 9 rfl rfl
theorem dk_X9_isOf_16 : tvD cX9_isOf 16 (.iload_n 2) 1 17 := tvDl_get dlk_X9_isOf 10 rfl rfl
theorem dk_X9_isOf_17 : tvJ cX9_isOf 17 (.if_icmp .ne) 24 20 := tvJl_get dlk_X9_isOf 11 rfl (by decide) rfl
theorem dk_X9_isOf_20 : tvD cX9_isOf 20 (.iconst 1) 1 21 := tvDl_get dlk_X9_isOf 12 rfl rfl
theorem dk_X9_isOf_21 : tvJ cX9_isOf 21 .goto 25 24 := tvJl_get dlk_X9_isOf 13 rfl (by decide) rfl
theorem dk_X9_isOf_24 : tvD cX9_isOf 24 (.iconst 0) 1 25 := tvDl_get dlk_X9_isOf 14 rfl rfl
theorem dk_X9_isOf_25 : tvD cX9_isOf 25 (.ireturn) 1 26 := tvDl_get dlk_X9_isOf 15 rfl rfl
def dl_X9_isOver : List (Nat × Instr × Nat) := [(0, .aload_n 0, 1), (1, .getfield 9, 3), (4, .iconst 0, 1), (5, .iaload, 1), (6, .aload_n 0, 1), (7, .iload_n 1, 1), (8, .iconst 5, 1), (9, .invokevirtual 55, 3), (12, .isub, 1), (13, .istore_n 2, 1), (14, .aload_n 0, 1), (15, .iload_n 1, 1), (16, .iconst 3, 1), (17, .invokevirtual 55, 3), (20, .iconst 1, 1), (21, .if_icmp .ne 8, 3), (24, .iload_n 2, 1), (25, .iconst 5, 1), (26, .if_icmp .ge 19, 3), (29, .aload_n 0, 1), (30, .iload_n 1, 1), (31, .iconst 3, 1), (32, .invokevirtual 55, 3), (35, .iconst 3, 1), (36, .if_icmp .ne 13, 3), (39, .iload_n 2, 1), (40, .bipush 10, 2), (42, .if_icmp .lt 7, 3), (45, .iconst 1, 1), (46, .goto 4, 3), (49, .iconst 0, 1), (50, .ireturn, 1)]
theorem dlk_X9_isOver : tvDl cX9_isOver dl_X9_isOver = true := by decide +kernel
theorem dk_X9_isOver_0 : tvD cX9_isOver 0 (.aload_n 0) 1 1 := tvDl_get dlk_X9_isOver 0 rfl rfl
theorem dk_X9_isOver_1 : tvD cX9_isOver 1 (.getfield 9) 3 4 := tvDl_get dlk_X9_isOver 1 rfl rfl
theorem dk_X9_isOver_4 : tvD cX9_isOver 4 (.iconst 0) 1 5 := tvDl_get dlk_X9_isOver 2 rfl rfl
theorem dk_X9_isOver_5 : tvD cX9_isOver 5 (.iaload) 1 6 := tvDl_get dlk_X9_isOver 3 rfl rfl
theorem dk_X9_isOver_6 : tvD cX9_isOver 6 (.aload_n 0) 1 7 := tvDl_get dlk_X9_isOver 4 rfl rfl
theorem dk_X9_isOver_7 : tvD cX9_isOver 7 (.iload_n 1) 1 8 := tvDl_get dlk_X9_isOver 5 rfl rfl
theorem dk_X9_isOver_8 : tvD cX9_isOver 8 (.iconst 5) 1 9 := tvDl_get dlk_X9_isOver 6 rfl rfl
theorem dk_X9_isOver_9 : tvD cX9_isOver 9 (.invokevirtual 55) 3 12 := tvDl_get dlk_X9_isOver 7 rfl rfl
theorem dk_X9_isOver_12 : tvD cX9_isOver 12 (.isub) 1 13 := tvDl_get dlk_X9_isOver 8 rfl rfl
theorem dk_X9_isOver_13 : tvD cX9_isOver 13 (.istore_n 2) 1 14 := tvDl_get dlk_X9_isOver 9 rfl rfl
theorem dk_X9_isOver_14 : tvD cX9_isOver 14 (.aload_n 0) 1 15 := tvDl_get dlk_X9_isOver 10 rfl rfl
theorem dk_X9_isOver_15 : tvD cX9_isOver 15 (.iload_n 1) 1 16 := tvDl_get dlk_X9_isOver 11 rfl rfl
theorem dk_X9_isOver_16 : tvD cX9_isOver 16 (.iconst 3) 1 17 := tvDl_get dlk_X9_isOver 12 rfl rfl
theorem dk_X9_isOver_17 : tvD cX9_isOver 17 (.invokevirtual 55) 3 20 := tvDl_get dlk_X9_isOver 13 rfl rfl
theorem dk_X9_isOver_20 : tvD cX9_isOver 20 (.iconst 1) 1 21 := tvDl_get dlk_X9_isOver 14 rfl rfl
theorem dk_X9_isOver_21 : tvJ cX9_isOver 21 (.if_icmp .ne) 29 24 := tvJl_get dlk_X9_isOver 15 rfl (by decide) rfl
theorem dk_X9_isOver_24 : tvD cX9_isOver 24 (.iload_n 2) 1 25 := tvDl_get dlk_X9_isOver 16 rfl rfl
theorem dk_X9_isOver_25 : tvD cX9_isOver 25 (.iconst 5) 1 26 := tvDl_get dlk_X9_isOver 17 rfl rfl
theorem dk_X9_isOver_26 : tvJ cX9_isOver 26 (.if_icmp .ge) 45 29 := tvJl_get dlk_X9_isOver 18 rfl (by decide) rfl
theorem dk_X9_isOver_29 : tvD cX9_isOver 29 (.aload_n 0) 1 30 := tvDl_get dlk_X9_isOver 19 rfl rfl
theorem dk_X9_isOver_30 : tvD cX9_isOver 30 (.iload_n 1) 1 31 := tvDl_get dlk_X9_isOver 20 rfl rfl
theorem dk_X9_isOver_31 : tvD cX9_isOver 31 (.iconst 3) 1 32 := tvDl_get dlk_X9_isOver 21 rfl rfl
theorem dk_X9_isOver_32 : tvD cX9_isOver 32 (.invokevirtual 55) 3 35 := tvDl_get dlk_X9_isOver 22 rfl rfl
theorem dk_X9_isOver_35 : tvD cX9_isOver 35 (.iconst 3) 1 36 := tvDl_get dlk_X9_isOver 23 rfl rfl
theorem dk_X9_isOver_36 : tvJ cX9_isOver 36 (.if_icmp .ne) 49 39 := tvJl_get dlk_X9_isOver 24 rfl (by decide) rfl
theorem dk_X9_isOver_39 : tvD cX9_isOver 39 (.iload_n 2) 1 40 := tvDl_get dlk_X9_isOver 25 rfl rfl
theorem dk_X9_isOver_40 : tvD cX9_isOver 40 (.bipush 10) 2 42 := tvDl_get dlk_X9_isOver 26 rfl rfl
theorem dk_X9_isOver_42 : tvJ cX9_isOver 42 (.if_icmp .lt) 49 45 := tvJl_get dlk_X9_isOver 27 rfl (by decide) rfl
theorem dk_X9_isOver_45 : tvD cX9_isOver 45 (.iconst 1) 1 46 := tvDl_get dlk_X9_isOver 28 rfl rfl
theorem dk_X9_isOver_46 : tvJ cX9_isOver 46 .goto 50 49 := tvJl_get dlk_X9_isOver 29 rfl (by decide) rfl
theorem dk_X9_isOver_49 : tvD cX9_isOver 49 (.iconst 0) 1 50 := tvDl_get dlk_X9_isOver 30 rfl rfl
theorem dk_X9_isOver_50 : tvD cX9_isOver 50 (.ireturn) 1 51 := tvDl_get dlk_X9_isOver 31 rfl rfl
def dl_X9_isSign : List (Nat × Instr × Nat) := [(0, .aload_n 0, 1), (1, .invokevirtual 202, 3), (4, .iload_n 1, 1), (5, .if_icmp .ne 7, 3), (8, .iconst 1, 1), (9, .goto 4, 3), (12, .iconst 0, 1), (13, .istore_n 2, 1), (14, .aload_n 0, 1), (15, .dup, 1), (16, .getfield 199, 3), (19, .iload_n 2, 1), (20, .ifCond .eq 7, 3), (23, .iconst 1, 1), (24, .goto 4, 3), (27, .iconst 0, 1), (28, .iadd, 1), (29, .putfield 199, 3), (32, .iload_n 2, 1), (33, .ireturn, 1)]
theorem dlk_X9_isSign : tvDl cX9_isSign dl_X9_isSign = true := by decide +kernel
theorem dk_X9_isSign_0 : tvD cX9_isSign 0 (.aload_n 0) 1 1 := tvDl_get dlk_X9_isSign 0 rfl rfl
theorem dk_X9_isSign_1 : tvD cX9_isSign 1 (.invokevirtual 202) 3 4 := tvDl_get dlk_X9_isSign 1 rfl rfl
theorem dk_X9_isSign_4 : tvD cX9_isSign 4 (.iload_n 1) 1 5 := tvDl_get dlk_X9_isSign 2 rfl rfl
theorem dk_X9_isSign_5 : tvJ cX9_isSign 5 (.if_icmp .ne) 12 8 := tvJl_get dlk_X9_isSign 3 rfl (by decide) rfl
theorem dk_X9_isSign_8 : tvD cX9_isSign 8 (.iconst 1) 1 9 := tvDl_get dlk_X9_isSign 4 rfl rfl
theorem dk_X9_isSign_9 : tvJ cX9_isSign 9 .goto 13 12 := tvJl_get dlk_X9_isSign 5 rfl (by decide) rfl
theorem dk_X9_isSign_12 : tvD cX9_isSign 12 (.iconst 0) 1 13 := tvDl_get dlk_X9_isSign 6 rfl rfl
theorem dk_X9_isSign_13 : tvD cX9_isSign 13 (.istore_n 2) 1 14 := tvDl_get dlk_X9_isSign 7 rfl rfl
theorem dk_X9_isSign_14 : tvD cX9_isSign 14 (.aload_n 0) 1 15 := tvDl_get dlk_X9_isSign 8 rfl rfl
theorem dk_X9_isSign_15 : tvD cX9_isSign 15 (.dup) 1 16 := tvDl_get dlk_X9_isSign 9 rfl rfl
theorem dk_X9_isSign_16 : tvD cX9_isSign 16 (.getfield 199) 3 19 := tvDl_get dlk_X9_isSign 10 rfl rfl
theorem dk_X9_isSign_19 : tvD cX9_isSign 19 (.iload_n 2) 1 20 := tvDl_get dlk_X9_isSign 11 rfl rfl
theorem dk_X9_isSign_20 : tvJ cX9_isSign 20 (.ifCond .eq) 27 23 := tvJl_get dlk_X9_isSign 12 rfl (by decide) rfl
theorem dk_X9_isSign_23 : tvD cX9_isSign 23 (.iconst 1) 1 24 := tvDl_get dlk_X9_isSign 13 rfl rfl
theorem dk_X9_isSign_24 : tvJ cX9_isSign 24 .goto 28 27 := tvJl_get dlk_X9_isSign 14 rfl (by decide) rfl
theorem dk_X9_isSign_27 : tvD cX9_isSign 27 (.iconst 0) 1 28 := tvDl_get dlk_X9_isSign 15 rfl rfl
theorem dk_X9_isSign_28 : tvD cX9_isSign 28 (.iadd) 1 29 := tvDl_get dlk_X9_isSign 16 rfl rfl
theorem dk_X9_isSign_29 : tvD cX9_isSign 29 (.putfield 199) 3 32 := tvDl_get dlk_X9_isSign 17 rfl rfl
theorem dk_X9_isSign_32 : tvD cX9_isSign 32 (.iload_n 2) 1 33 := tvDl_get dlk_X9_isSign 18 rfl rfl
theorem dk_X9_isSign_33 : tvD cX9_isSign 33 (.ireturn) 1 34 := tvDl_get dlk_X9_isSign 19 rfl rfl
def dl_X9_isThrown : List (Nat × Instr × Nat) := [(0, .aload_n 0, 1), (1, .iload_n 1, 1), (2, .ifCond .eq 7, 3), (5, .iload_n 2, 1), (6, .goto 4, 3), (9, .iconst 0, 1), (10, .putfield 38, 3), (13, .iload_n 1, 1), (14, .ireturn, 1)]
theorem dlk_X9_isThrown : tvDl cX9_isThrown dl_X9_isThrown = true := by decide +kernel
theorem dk_X9_isThrown_0 : tvD cX9_isThrown 0 (.aload_n 0) 1 1 := tvDl_get dlk_X9_isThrown 0 rfl rfl
theorem dk_X9_isThrown_1 : tvD cX9_isThrown 1 (.iload_n 1) 1 2 := tvDl_get dlk_X9_isThrown 1 rfl rfl
theorem dk_X9_isThrown_2 : tvJ cX9_isThrown 2 (.ifCond .eq) 9 5 := tvJl_get dlk_X9_isThrown 2 rfl (by decide) rfl
theorem dk_X9_isThrown_5 : tvD cX9_isThrown 5 (.iload_n 2) 1 6 := tvDl_get dlk_X9_isThrown 3 rfl rfl
theorem dk_X9_isThrown_6 : tvJ cX9_isThrown 6 .goto 10 9 := tvJl_get dlk_X9_isThrown 4 rfl (by decide) rfl
theorem dk_X9_isThrown_9 : tvD cX9_isThrown 9 (.iconst 0) 1 10 := tvDl_get dlk_X9_isThrown 5 rfl rfl
theorem dk_X9_isThrown_10 : tvD cX9_isThrown 10 (.putfield 38) 3 13 := tvDl_get dlk_X9_isThrown 6 rfl rfl
theorem dk_X9_isThrown_13 : tvD cX9_isThrown 13 (.iload_n 1) 1 14 := tvDl_get dlk_X9_isThrown 7 rfl rfl
theorem dk_X9_isThrown_14 : tvD cX9_isThrown 14 (.ireturn) 1 15 := tvDl_get dlk_X9_isThrown 8 rfl rfl
def dl_X9_locked : List (Nat × Instr × Nat) := [(0, .aload_n 0, 1), (1, .getfield 9, 3), (4, .iconst 0, 1), (5, .iaload, 1), (6, .aload_n 0, 1), (7, .iload_n 1, 1), (8, .iconst 2, 1), (9, .invokevirtual 59, 3), (12, .if_icmp .ge 7, 3), (15, .iconst 1, 1), (16, .goto 4, 3), (19, .iconst 0, 1), (20, .ireturn, 1)]
theorem dlk_X9_locked : tvDl cX9_locked dl_X9_locked = true := by decide +kernel
theorem dk_X9_locked_0 : tvD cX9_locked 0 (.aload_n 0) 1 1 := tvDl_get dlk_X9_locked 0 rfl rfl
theorem dk_X9_locked_1 : tvD cX9_locked 1 (.getfield 9) 3 4 := tvDl_get dlk_X9_locked 1 rfl rfl
theorem dk_X9_locked_4 : tvD cX9_locked 4 (.iconst 0) 1 5 := tvDl_get dlk_X9_locked 2 rfl rfl
theorem dk_X9_locked_5 : tvD cX9_locked 5 (.iaload) 1 6 := tvDl_get dlk_X9_locked 3 rfl rfl
theorem dk_X9_locked_6 : tvD cX9_locked 6 (.aload_n 0) 1 7 := tvDl_get dlk_X9_locked 4 rfl rfl
theorem dk_X9_locked_7 : tvD cX9_locked 7 (.iload_n 1) 1 8 := tvDl_get dlk_X9_locked 5 rfl rfl
theorem dk_X9_locked_8 : tvD cX9_locked 8 (.iconst 2) 1 9 := tvDl_get dlk_X9_locked 6 rfl rfl
theorem dk_X9_locked_9 : tvD cX9_locked 9 (.invokevirtual 59) 3 12 := tvDl_get dlk_X9_locked 7 rfl rfl
theorem dk_X9_locked_12 : tvJ cX9_locked 12 (.if_icmp .ge) 19 15 := tvJl_get dlk_X9_locked 8 rfl (by decide) rfl
theorem dk_X9_locked_15 : tvD cX9_locked 15 (.iconst 1) 1 16 := tvDl_get dlk_X9_locked 9 rfl rfl
theorem dk_X9_locked_16 : tvJ cX9_locked 16 .goto 20 19 := tvJl_get dlk_X9_locked 10 rfl (by decide) rfl
theorem dk_X9_locked_19 : tvD cX9_locked 19 (.iconst 0) 1 20 := tvDl_get dlk_X9_locked 11 rfl rfl
theorem dk_X9_locked_20 : tvD cX9_locked 20 (.ireturn) 1 21 := tvDl_get dlk_X9_locked 12 rfl rfl
def dl_X9_low : List (Nat × Instr × Nat) := [(0, .iload_n 1, 1), (1, .aload_n 0, 1), (2, .getfield 9, 3), (5, .iconst 1, 1), (6, .iaload, 1), (7, .irem, 1), (8, .aload_n 0, 1), (9, .getfield 9, 3), (12, .iconst 2, 1), (13, .iaload, 1), (14, .if_icmp .ge 7, 3), (17, .iconst 1, 1), (18, .goto 4, 3), (21, .iconst 0, 1), (22, .ireturn, 1)]
theorem dlk_X9_low : tvDl cX9_low dl_X9_low = true := by decide +kernel
theorem dk_X9_low_0 : tvD cX9_low 0 (.iload_n 1) 1 1 := tvDl_get dlk_X9_low 0 rfl rfl
theorem dk_X9_low_1 : tvD cX9_low 1 (.aload_n 0) 1 2 := tvDl_get dlk_X9_low 1 rfl rfl
theorem dk_X9_low_2 : tvD cX9_low 2 (.getfield 9) 3 5 := tvDl_get dlk_X9_low 2 rfl rfl
theorem dk_X9_low_5 : tvD cX9_low 5 (.iconst 1) 1 6 := tvDl_get dlk_X9_low 3 rfl rfl
theorem dk_X9_low_6 : tvD cX9_low 6 (.iaload) 1 7 := tvDl_get dlk_X9_low 4 rfl rfl
theorem dk_X9_low_7 : tvD cX9_low 7 (.irem) 1 8 := tvDl_get dlk_X9_low 5 rfl rfl
theorem dk_X9_low_8 : tvD cX9_low 8 (.aload_n 0) 1 9 := tvDl_get dlk_X9_low 6 rfl rfl
theorem dk_X9_low_9 : tvD cX9_low 9 (.getfield 9) 3 12 := tvDl_get dlk_X9_low 7 rfl rfl
theorem dk_X9_low_12 : tvD cX9_low 12 (.iconst 2) 1 13 := tvDl_get dlk_X9_low 8 rfl rfl
theorem dk_X9_low_13 : tvD cX9_low 13 (.iaload) 1 14 := tvDl_get dlk_X9_low 9 rfl rfl
theorem dk_X9_low_14 : tvJ cX9_low 14 (.if_icmp .ge) 21 17 := tvJl_get dlk_X9_low 10 rfl (by decide) rfl
theorem dk_X9_low_17 : tvD cX9_low 17 (.iconst 1) 1 18 := tvDl_get dlk_X9_low 11 rfl rfl
theorem dk_X9_low_18 : tvJ cX9_low 18 .goto 22 21 := tvJl_get dlk_X9_low 12 rfl (by decide) rfl
theorem dk_X9_low_21 : tvD cX9_low 21 (.iconst 0) 1 22 := tvDl_get dlk_X9_low 13 rfl rfl
theorem dk_X9_low_22 : tvD cX9_low 22 (.ireturn) 1 23 := tvDl_get dlk_X9_low 14 rfl rfl
def dl_X9_minutesLocked : List (Nat × Instr × Nat) := [(0, .aload_n 0, 1), (1, .aload_n 0, 1), (2, .iload_n 1, 1), (3, .invokevirtual 80, 3), (6, .ifCond .ne 7, 3), (9, .iconst 1, 1), (10, .goto 4, 3), (13, .iconst 0, 1), (14, .iconst 1, 1), (15, .invokevirtual 62, 3), (18, .ifCond .ne 11, 3), (21, .aload_n 0, 1), (22, .iload_n 1, 1), (23, .invokevirtual 110, 3), (26, .ifCond .ne 7, 3), (29, .iconst 0, 1), (30, .goto 16, 3), (33, .aload_n 0, 1), (34, .iload_n 1, 1), (35, .iconst 2, 1), (36, .invokevirtual 59, 3), (39, .aload_n 0, 1), (40, .getfield 9, 3), (43, .iconst 0, 1), (44, .iaload, 1), (45, .isub, 1), (46, .ireturn, 1)]
theorem dlk_X9_minutesLocked : tvDl cX9_minutesLocked dl_X9_minutesLocked = true := by decide +kernel
theorem dk_X9_minutesLocked_0 : tvD cX9_minutesLocked 0 (.aload_n 0) 1 1 := tvDl_get dlk_X9_minutesLocked 0 rfl rfl
theorem dk_X9_minutesLocked_1 : tvD cX9_minutesLocked 1 (.aload_n 0) 1 2 := tvDl_get dlk_X9_minutesLocked 1 rfl rfl
theorem dk_X9_minutesLocked_2 : tvD cX9_minutesLocked 2 (.iload_n 1) 1 3 := tvDl_get dlk_X9_minutesLocked 2 rfl rfl
theorem dk_X9_minutesLocked_3 : tvD cX9_minutesLocked 3 (.invokevirtual 80) 3 6 := tvDl_get dlk_X9_minutesLocked 3 rfl rfl
theorem dk_X9_minutesLocked_6 : tvJ cX9_minutesLocked 6 (.ifCond .ne) 13 9 := tvJl_get dlk_X9_minutesLocked 4 rfl (by decide) rfl
theorem dk_X9_minutesLocked_9 : tvD cX9_minutesLocked 9 (.iconst 1) 1 10 := tvDl_get dlk_X9_minutesLocked 5 rfl rfl
theorem dk_X9_minutesLocked_10 : tvJ cX9_minutesLocked 10 .goto 14 13 := tvJl_get dlk_X9_minutesLocked 6 rfl (by decide) rfl
theorem dk_X9_minutesLocked_13 : tvD cX9_minutesLocked 13 (.iconst 0) 1 14 := tvDl_get dlk_X9_minutesLocked 7 rfl rfl
theorem dk_X9_minutesLocked_14 : tvD cX9_minutesLocked 14 (.iconst 1) 1 15 := tvDl_get dlk_X9_minutesLocked 8 rfl rfl
theorem dk_X9_minutesLocked_15 : tvD cX9_minutesLocked 15 (.invokevirtual 62) 3 18 := tvDl_get dlk_X9_minutesLocked 9 rfl rfl
theorem dk_X9_minutesLocked_18 : tvJ cX9_minutesLocked 18 (.ifCond .ne) 29 21 := tvJl_get dlk_X9_minutesLocked 10 rfl (by decide) rfl
theorem dk_X9_minutesLocked_21 : tvD cX9_minutesLocked 21 (.aload_n 0) 1 22 := tvDl_get dlk_X9_minutesLocked 11 rfl rfl
theorem dk_X9_minutesLocked_22 : tvD cX9_minutesLocked 22 (.iload_n 1) 1 23 := tvDl_get dlk_X9_minutesLocked 12 rfl rfl
theorem dk_X9_minutesLocked_23 : tvD cX9_minutesLocked 23 (.invokevirtual 110) 3 26 := tvDl_get dlk_X9_minutesLocked 13 rfl rfl
theorem dk_X9_minutesLocked_26 : tvJ cX9_minutesLocked 26 (.ifCond .ne) 33 29 := tvJl_get dlk_X9_minutesLocked 14 rfl (by decide) rfl
theorem dk_X9_minutesLocked_29 : tvD cX9_minutesLocked 29 (.iconst 0) 1 30 := tvDl_get dlk_X9_minutesLocked 15 rfl rfl
theorem dk_X9_minutesLocked_30 : tvJ cX9_minutesLocked 30 .goto 46 33 := tvJl_get dlk_X9_minutesLocked 16 rfl (by decide) rfl
theorem dk_X9_minutesLocked_33 : tvD cX9_minutesLocked 33 (.aload_n 0) 1 34 := tvDl_get dlk_X9_minutesLocked 17 rfl rfl
theorem dk_X9_minutesLocked_34 : tvD cX9_minutesLocked 34 (.iload_n 1) 1 35 := tvDl_get dlk_X9_minutesLocked 18 rfl rfl
theorem dk_X9_minutesLocked_35 : tvD cX9_minutesLocked 35 (.iconst 2) 1 36 := tvDl_get dlk_X9_minutesLocked 19 rfl rfl
theorem dk_X9_minutesLocked_36 : tvD cX9_minutesLocked 36 (.invokevirtual 59) 3 39 := tvDl_get dlk_X9_minutesLocked 20 rfl rfl
theorem dk_X9_minutesLocked_39 : tvD cX9_minutesLocked 39 (.aload_n 0) 1 40 := tvDl_get dlk_X9_minutesLocked 21 rfl rfl
theorem dk_X9_minutesLocked_40 : tvD cX9_minutesLocked 40 (.getfield 9) 3 43 := tvDl_get dlk_X9_minutesLocked 22 rfl rfl
theorem dk_X9_minutesLocked_43 : tvD cX9_minutesLocked 43 (.iconst 0) 1 44 := tvDl_get dlk_X9_minutesLocked 23 rfl rfl
theorem dk_X9_minutesLocked_44 : tvD cX9_minutesLocked 44 (.iaload) 1 45 := tvDl_get dlk_X9_minutesLocked 24 rfl rfl
theorem dk_X9_minutesLocked_45 : tvD cX9_minutesLocked 45 (.isub) 1 46 := tvDl_get dlk_X9_minutesLocked 25 rfl rfl
theorem dk_X9_minutesLocked_46 : tvD cX9_minutesLocked 46 (.ireturn) 1 47 := tvDl_get dlk_X9_minutesLocked 26 rfl rfl
def dl_X9_now : List (Nat × Instr × Nat) := [(0, .aload_n 0, 1), (1, .getfield 199, 3), (4, .aload_n 0, 1), (5, .getfield 196, 3), (8, .if_icmp .ge 15, 3), (11, .aload_n 0, 1), (12, .getfield 32, 3), (15, .aload_n 0, 1), (16, .getfield 199, 3), (19, .iaload, 1), (20, .goto 4, 3), (23, .iconst (-1), 1), (24, .ireturn, 1)]
theorem dlk_X9_now : tvDl cX9_now dl_X9_now = true := by decide +kernel
theorem dk_X9_now_0 : tvD cX9_now 0 (.aload_n 0) 1 1 := tvDl_get dlk_X9_now 0 rfl rfl
theorem dk_X9_now_1 : tvD cX9_now 1 (.getfield 199) 3 4 := tvDl_get dlk_X9_now 1 rfl rfl
theorem dk_X9_now_4 : tvD cX9_now 4 (.aload_n 0) 1 5 := tvDl_get dlk_X9_now 2 rfl rfl
theorem dk_X9_now_5 : tvD cX9_now 5 (.getfield 196) 3 8 := tvDl_get dlk_X9_now 3 rfl rfl
theorem dk_X9_now_8 : tvJ cX9_now 8 (.if_icmp .ge) 23 11 := tvJl_get dlk_X9_now 4 rfl (by decide) rfl
theorem dk_X9_now_11 : tvD cX9_now 11 (.aload_n 0) 1 12 := tvDl_get dlk_X9_now 5 rfl rfl
theorem dk_X9_now_12 : tvD cX9_now 12 (.getfield 32) 3 15 := tvDl_get dlk_X9_now 6 rfl rfl
theorem dk_X9_now_15 : tvD cX9_now 15 (.aload_n 0) 1 16 := tvDl_get dlk_X9_now 7 rfl rfl
theorem dk_X9_now_16 : tvD cX9_now 16 (.getfield 199) 3 19 := tvDl_get dlk_X9_now 8 rfl rfl
theorem dk_X9_now_19 : tvD cX9_now 19 (.iaload) 1 20 := tvDl_get dlk_X9_now 9 rfl rfl
theorem dk_X9_now_20 : tvJ cX9_now 20 .goto 24 23 := tvJl_get dlk_X9_now 10 rfl (by decide) rfl
theorem dk_X9_now_23 : tvD cX9_now 23 (.iconst (-1)) 1 24 := tvDl_get dlk_X9_now 11 rfl rfl
theorem dk_X9_now_24 : tvD cX9_now 24 (.ireturn) 1 25 := tvDl_get dlk_X9_now 12 rfl rfl
def dl_X9_of : List (Nat × Instr × Nat) := [(0, .aload_n 0, 1), (1, .getfield 9, 3), (4, .bipush 36, 2), (6, .bipush 13, 2), (8, .iload_n 1, 1), (9, .imul, 1), (10, .iadd, 1), (11, .iload_n 2, 1), (12, .iadd, 1), (13, .iaload, 1), (14, .ireturn, 1)]
theorem dlk_X9_of : tvDl cX9_of dl_X9_of = true := by decide +kernel
theorem dk_X9_of_0 : tvD cX9_of 0 (.aload_n 0) 1 1 := tvDl_get dlk_X9_of 0 rfl rfl
theorem dk_X9_of_1 : tvD cX9_of 1 (.getfield 9) 3 4 := tvDl_get dlk_X9_of 1 rfl rfl
theorem dk_X9_of_4 : tvD cX9_of 4 (.bipush 36) 2 6 := tvDl_get dlk_X9_of 2 rfl rfl
theorem dk_X9_of_6 : tvD cX9_of 6 (.bipush 13) 2 8 := tvDl_get dlk_X9_of 3 rfl rfl
theorem dk_X9_of_8 : tvD cX9_of 8 (.iload_n 1) 1 9 := tvDl_get dlk_X9_of 4 rfl rfl
theorem dk_X9_of_9 : tvD cX9_of 9 (.imul) 1 10 := tvDl_get dlk_X9_of 5 rfl rfl
theorem dk_X9_of_10 : tvD cX9_of 10 (.iadd) 1 11 := tvDl_get dlk_X9_of 6 rfl rfl
theorem dk_X9_of_11 : tvD cX9_of 11 (.iload_n 2) 1 12 := tvDl_get dlk_X9_of 7 rfl rfl
theorem dk_X9_of_12 : tvD cX9_of 12 (.iadd) 1 13 := tvDl_get dlk_X9_of 8 rfl rfl
theorem dk_X9_of_13 : tvD cX9_of 13 (.iaload) 1 14 := tvDl_get dlk_X9_of 9 rfl rfl
theorem dk_X9_of_14 : tvD cX9_of 14 (.ireturn) 1 15 := tvDl_get dlk_X9_of 10 rfl rfl
def dl_X9_ofEvent : List (Nat × Instr × Nat) := [(0, .aload_n 0, 1), (1, .iload_n 1, 1), (2, .iconst 0, 1), (3, .aload_n 0, 1), (4, .getfield 9, 3), (7, .bipush 11, 2), (9, .iaload, 1), (10, .iconst 1, 1), (11, .isub, 1), (12, .invokestatic 51, 3), (15, .ifCond .ne 7, 3), (18, .iconst 1, 1), (19, .goto 4, 3), (22, .iconst 0, 1), (23, .iconst 1, 1), (24, .invokevirtual 62, 3), (27, .ifCond .eq 7, 3), (30, .iconst 0, 1), (31, .goto 17, 3), (34, .aload_n 0, 1), (35, .getfield 9, 3), (38, .sipush 166, 3), (41, .iconst 3, 1), (42, .iload_n 1, 1), (43, .imul, 1), (44, .iadd, 1), (45, .iload_n 2, 1), (46, .iadd, 1), (47, .iaload, 1), (48, .ireturn, 1)]
theorem dlk_X9_ofEvent : tvDl cX9_ofEvent dl_X9_ofEvent = true := by decide +kernel
theorem dk_X9_ofEvent_0 : tvD cX9_ofEvent 0 (.aload_n 0) 1 1 := tvDl_get dlk_X9_ofEvent 0 rfl rfl
theorem dk_X9_ofEvent_1 : tvD cX9_ofEvent 1 (.iload_n 1) 1 2 := tvDl_get dlk_X9_ofEvent 1 rfl rfl
theorem dk_X9_ofEvent_2 : tvD cX9_ofEvent 2 (.iconst 0) 1 3 := tvDl_get dlk_X9_ofEvent 2 rfl rfl
theorem dk_X9_ofEvent_3 : tvD cX9_ofEvent 3 (.aload_n 0) 1 4 := tvDl_get dlk_X9_ofEvent 3 rfl rfl
theorem dk_X9_ofEvent_4 : tvD cX9_ofEvent 4 (.getfield 9) 3 7 := tvDl_get dlk_X9_ofEvent 4 rfl rfl
theorem dk_X9_ofEvent_7 : tvD cX9_ofEvent 7 (.bipush 11) 2 9 := tvDl_get dlk_X9_ofEvent 5 rfl rfl
theorem dk_X9_ofEvent_9 : tvD cX9_ofEvent 9 (.iaload) 1 10 := tvDl_get dlk_X9_ofEvent 6 rfl rfl
theorem dk_X9_ofEvent_10 : tvD cX9_ofEvent 10 (.iconst 1) 1 11 := tvDl_get dlk_X9_ofEvent 7 rfl rfl
theorem dk_X9_ofEvent_11 : tvD cX9_ofEvent 11 (.isub) 1 12 := tvDl_get dlk_X9_ofEvent 8 rfl rfl
theorem dk_X9_ofEvent_12 : tvD cX9_ofEvent 12 (.invokestatic 51) 3 15 := tvDl_get dlk_X9_ofEvent 9 rfl rfl
theorem dk_X9_ofEvent_15 : tvJ cX9_ofEvent 15 (.ifCond .ne) 22 18 := tvJl_get dlk_X9_ofEvent 10 rfl (by decide) rfl
theorem dk_X9_ofEvent_18 : tvD cX9_ofEvent 18 (.iconst 1) 1 19 := tvDl_get dlk_X9_ofEvent 11 rfl rfl
theorem dk_X9_ofEvent_19 : tvJ cX9_ofEvent 19 .goto 23 22 := tvJl_get dlk_X9_ofEvent 12 rfl (by decide) rfl
theorem dk_X9_ofEvent_22 : tvD cX9_ofEvent 22 (.iconst 0) 1 23 := tvDl_get dlk_X9_ofEvent 13 rfl rfl
theorem dk_X9_ofEvent_23 : tvD cX9_ofEvent 23 (.iconst 1) 1 24 := tvDl_get dlk_X9_ofEvent 14 rfl rfl
theorem dk_X9_ofEvent_24 : tvD cX9_ofEvent 24 (.invokevirtual 62) 3 27 := tvDl_get dlk_X9_ofEvent 15 rfl rfl
theorem dk_X9_ofEvent_27 : tvJ cX9_ofEvent 27 (.ifCond .eq) 34 30 := tvJl_get dlk_X9_ofEvent 16 rfl (by decide) rfl
theorem dk_X9_ofEvent_30 : tvD cX9_ofEvent 30 (.iconst 0) 1 31 := tvDl_get dlk_X9_ofEvent 17 rfl rfl
theorem dk_X9_ofEvent_31 : tvJ cX9_ofEvent 31 .goto 48 34 := tvJl_get dlk_X9_ofEvent 18 rfl (by decide) rfl
theorem dk_X9_ofEvent_34 : tvD cX9_ofEvent 34 (.aload_n 0) 1 35 := tvDl_get dlk_X9_ofEvent 19 rfl rfl
theorem dk_X9_ofEvent_35 : tvD cX9_ofEvent 35 (.getfield 9) 3 38 := tvDl_get dlk_X9_ofEvent 20 rfl rfl
theorem dk_X9_ofEvent_38 : tvD cX9_ofEvent 38 (.sipush 166) 3 41 := tvDl_get dlk_X9_ofEvent 21 rfl rfl
theorem dk_X9_ofEvent_41 : tvD cX9_ofEvent 41 (.iconst 3) 1 42 := tvDl_get dlk_X9_ofEvent 22 rfl rfl
theorem dk_X9_ofEvent_42 : tvD cX9_ofEvent 42 (.iload_n 1) 1 43 := tvDl_get dlk_X9_ofEvent 23 rfl rfl
theorem dk_X9_ofEvent_43 : tvD cX9_ofEvent 43 (.imul) 1 44 := tvDl_get dlk_X9_ofEvent 24 rfl rfl
theorem dk_X9_ofEvent_44 : tvD cX9_ofEvent 44 (.iadd) 1 45 := tvDl_get dlk_X9_ofEvent 25 rfl rfl
theorem dk_X9_ofEvent_45 : tvD cX9_ofEvent 45 (.iload_n 2) 1 46 := tvDl_get dlk_X9_ofEvent 26 rfl rfl
theorem dk_X9_ofEvent_46 : tvD cX9_ofEvent 46 (.iadd) 1 47 := tvDl_get dlk_X9_ofEvent 27 rfl rfl
theorem dk_X9_ofEvent_47 : tvD cX9_ofEvent 47 (.iaload) 1 48 := tvDl_get dlk_X9_ofEvent 28 rfl rfl
theorem dk_X9_ofEvent_48 : tvD cX9_ofEvent 48 (.ireturn) 1 49 := tvDl_get dlk_X9_ofEvent 29 rfl rfl
def dl_X9_ofHolder : List (Nat × Instr × Nat) := [(0, .aload_n 0, 1), (1, .getfield 9, 3), (4, .bipush 12, 2), (6, .iconst 3, 1), (7, .iload_n 1, 1), (8, .imul, 1), (9, .iadd, 1), (10, .iload_n 2, 1), (11, .iadd, 1), (12, .iaload, 1), (13, .ireturn, 1)]
theorem dlk_X9_ofHolder : tvDl cX9_ofHolder dl_X9_ofHolder = true := by decide +kernel
theorem dk_X9_ofHolder_0 : tvD cX9_ofHolder 0 (.aload_n 0) 1 1 := tvDl_get dlk_X9_ofHolder 0 rfl rfl
theorem dk_X9_ofHolder_1 : tvD cX9_ofHolder 1 (.getfield 9) 3 4 := tvDl_get dlk_X9_ofHolder 1 rfl rfl
theorem dk_X9_ofHolder_4 : tvD cX9_ofHolder 4 (.bipush 12) 2 6 := tvDl_get dlk_X9_ofHolder 2 rfl rfl
theorem dk_X9_ofHolder_6 : tvD cX9_ofHolder 6 (.iconst 3) 1 7 := tvDl_get dlk_X9_ofHolder 3 rfl rfl
theorem dk_X9_ofHolder_7 : tvD cX9_ofHolder 7 (.iload_n 1) 1 8 := tvDl_get dlk_X9_ofHolder 4 rfl rfl
theorem dk_X9_ofHolder_8 : tvD cX9_ofHolder 8 (.imul) 1 9 := tvDl_get dlk_X9_ofHolder 5 rfl rfl
theorem dk_X9_ofHolder_9 : tvD cX9_ofHolder 9 (.iadd) 1 10 := tvDl_get dlk_X9_ofHolder 6 rfl rfl
theorem dk_X9_ofHolder_10 : tvD cX9_ofHolder 10 (.iload_n 2) 1 11 := tvDl_get dlk_X9_ofHolder 7 rfl rfl
theorem dk_X9_ofHolder_11 : tvD cX9_ofHolder 11 (.iadd) 1 12 := tvDl_get dlk_X9_ofHolder 8 rfl rfl
theorem dk_X9_ofHolder_12 : tvD cX9_ofHolder 12 (.iaload) 1 13 := tvDl_get dlk_X9_ofHolder 9 rfl rfl
theorem dk_X9_ofHolder_13 : tvD cX9_ofHolder 13 (.ireturn) 1 14 := tvDl_get dlk_X9_ofHolder 10 rfl rfl
def dl_X9_otherHolder : List (Nat × Instr × Nat) := [(0, .aload_n 0, 1), (1, .aload_n 0, 1), (2, .iload_n 1, 1), (3, .invokevirtual 113, 3), (6, .ifCond .ne 7, 3), (9, .iconst 1, 1), (10, .goto 4, 3), (13, .iconst 0, 1), (14, .iconst 1, 1), (15, .invokevirtual 62, 3), (18, .ifCond .ne 25, 3), (21, .aload_n 0, 1), (22, .aload_n 0, 1), (23, .iload_n 1, 1), (24, .iload_n 2, 1), (25, .invokevirtual 116, 3), (28, .ifCond .ne 7, 3), (31, .iconst 1, 1), (32, .goto 4, 3), (35, .iconst 0, 1), (36, .iconst 2, 1), (37, .invokevirtual 62, 3), (40, .ifCond .eq 5, 3), (43, .iconst 0, 1), (44, .ireturn, 1), (45, .aload_n 0, 1), (46, .iload_n 1, 1), (47, .iconst 0, 1), (48, .invokevirtual 55, 3), (51, .iload_n 2, 1), (52, .if_icmp .ne 12, 3), (55, .aload_n 0, 1), (56, .iload_n 1, 1), (57, .iconst 1, 1), (58, .invokevirtual 55, 3), (61, .goto 9, 3), (64, .aload_n 0, 1), (65, .iload_n 1, 1), (66, .iconst 0, 1), (67, .invokevirtual 55, 3), (70, .ireturn, 1)]
theorem dlk_X9_otherHolder : tvDl cX9_otherHolder dl_X9_otherHolder = true := by decide +kernel
theorem dk_X9_otherHolder_0 : tvD cX9_otherHolder 0 (.aload_n 0) 1 1 := tvDl_get dlk_X9_otherHolder 0 rfl rfl
theorem dk_X9_otherHolder_1 : tvD cX9_otherHolder 1 (.aload_n 0) 1 2 := tvDl_get dlk_X9_otherHolder 1 rfl rfl
theorem dk_X9_otherHolder_2 : tvD cX9_otherHolder 2 (.iload_n 1) 1 3 := tvDl_get dlk_X9_otherHolder 2 rfl rfl
theorem dk_X9_otherHolder_3 : tvD cX9_otherHolder 3 (.invokevirtual 113) 3 6 := tvDl_get dlk_X9_otherHolder 3 rfl rfl
theorem dk_X9_otherHolder_6 : tvJ cX9_otherHolder 6 (.ifCond .ne) 13 9 := tvJl_get dlk_X9_otherHolder 4 rfl (by decide) rfl
theorem dk_X9_otherHolder_9 : tvD cX9_otherHolder 9 (.iconst 1) 1 10 := tvDl_get dlk_X9_otherHolder 5 rfl rfl
theorem dk_X9_otherHolder_10 : tvJ cX9_otherHolder 10 .goto 14 13 := tvJl_get dlk_X9_otherHolder 6 rfl (by decide) rfl
theorem dk_X9_otherHolder_13 : tvD cX9_otherHolder 13 (.iconst 0) 1 14 := tvDl_get dlk_X9_otherHolder 7 rfl rfl
theorem dk_X9_otherHolder_14 : tvD cX9_otherHolder 14 (.iconst 1) 1 15 := tvDl_get dlk_X9_otherHolder 8 rfl rfl
theorem dk_X9_otherHolder_15 : tvD cX9_otherHolder 15 (.invokevirtual 62) 3 18 := tvDl_get dlk_X9_otherHolder 9 rfl rfl
theorem dk_X9_otherHolder_18 : tvJ cX9_otherHolder 18 (.ifCond .ne) 43 21 := tvJl_get dlk_X9_otherHolder 10 rfl (by decide) rfl
theorem dk_X9_otherHolder_21 : tvD cX9_otherHolder 21 (.aload_n 0) 1 22 := tvDl_get dlk_X9_otherHolder 11 rfl rfl
theorem dk_X9_otherHolder_22 : tvD cX9_otherHolder 22 (.aload_n 0) 1 23 := tvDl_get dlk_X9_otherHolder 12 rfl rfl
theorem dk_X9_otherHolder_23 : tvD cX9_otherHolder 23 (.iload_n 1) 1 24 := tvDl_get dlk_X9_otherHolder 13 rfl rfl
theorem dk_X9_otherHolder_24 : tvD cX9_otherHolder 24 (.iload_n 2) 1 25 := tvDl_get dlk_X9_otherHolder 14 rfl rfl
theorem dk_X9_otherHolder_25 : tvD cX9_otherHolder 25 (.invokevirtual 116) 3 28 := tvDl_get dlk_X9_otherHolder 15 rfl rfl
theorem dk_X9_otherHolder_28 : tvJ cX9_otherHolder 28 (.ifCond .ne) 35 31 := tvJl_get dlk_X9_otherHolder 16 rfl (by decide) rfl
theorem dk_X9_otherHolder_31 : tvD cX9_otherHolder 31 (.iconst 1) 1 32 := tvDl_get dlk_X9_otherHolder 17 rfl rfl
theorem dk_X9_otherHolder_32 : tvJ cX9_otherHolder 32 .goto 36 35 := tvJl_get dlk_X9_otherHolder 18 rfl (by decide) rfl
theorem dk_X9_otherHolder_35 : tvD cX9_otherHolder 35 (.iconst 0) 1 36 := tvDl_get dlk_X9_otherHolder 19 rfl rfl
theorem dk_X9_otherHolder_36 : tvD cX9_otherHolder 36 (.iconst 2) 1 37 := tvDl_get dlk_X9_otherHolder 20 rfl rfl
theorem dk_X9_otherHolder_37 : tvD cX9_otherHolder 37 (.invokevirtual 62) 3 40 := tvDl_get dlk_X9_otherHolder 21 rfl rfl
theorem dk_X9_otherHolder_40 : tvJ cX9_otherHolder 40 (.ifCond .eq) 45 43 := tvJl_get dlk_X9_otherHolder 22 rfl (by decide) rfl
theorem dk_X9_otherHolder_43 : tvD cX9_otherHolder 43 (.iconst 0) 1 44 := tvDl_get dlk_X9_otherHolder 23 rfl rfl
theorem dk_X9_otherHolder_44 : tvD cX9_otherHolder 44 (.ireturn) 1 45 := tvDl_get dlk_X9_otherHolder 24 rfl rfl
theorem dk_X9_otherHolder_45 : tvD cX9_otherHolder 45 (.aload_n 0) 1 46 := tvDl_get dlk_X9_otherHolder 25 rfl rfl
theorem dk_X9_otherHolder_46 : tvD cX9_otherHolder 46 (.iload_n 1) 1 47 := tvDl_get dlk_X9_otherHolder 26 rfl rfl
theorem dk_X9_otherHolder_47 : tvD cX9_otherHolder 47 (.iconst 0) 1 48 := tvDl_get dlk_X9_otherHolder 27 rfl rfl
theorem dk_X9_otherHolder_48 : tvD cX9_otherHolder 48 (.invokevirtual 55) 3 51 := tvDl_get dlk_X9_otherHolder 28 rfl rfl
theorem dk_X9_otherHolder_51 : tvD cX9_otherHolder 51 (.iload_n 2) 1 52 := tvDl_get dlk_X9_otherHolder 29 rfl rfl
theorem dk_X9_otherHolder_52 : tvJ cX9_otherHolder 52 (.if_icmp .ne) 64 55 := tvJl_get dlk_X9_otherHolder 30 rfl (by decide) rfl
theorem dk_X9_otherHolder_55 : tvD cX9_otherHolder 55 (.aload_n 0) 1 56 := tvDl_get dlk_X9_otherHolder 31 rfl rfl
theorem dk_X9_otherHolder_56 : tvD cX9_otherHolder 56 (.iload_n 1) 1 57 := tvDl_get dlk_X9_otherHolder 32 rfl rfl
theorem dk_X9_otherHolder_57 : tvD cX9_otherHolder 57 (.iconst 1) 1 58 := tvDl_get dlk_X9_otherHolder 33 rfl rfl
theorem dk_X9_otherHolder_58 : tvD cX9_otherHolder 58 (.invokevirtual 55) 3 61 := tvDl_get dlk_X9_otherHolder 34 rfl rfl
theorem dk_X9_otherHolder_61 : tvJ cX9_otherHolder 61 .goto 70 64 := tvJl_get dlk_X9_otherHolder 35 rfl (by decide) rfl
theorem dk_X9_otherHolder_64 : tvD cX9_otherHolder 64 (.aload_n 0) 1 65 := tvDl_get dlk_X9_otherHolder 36 rfl rfl
theorem dk_X9_otherHolder_65 : tvD cX9_otherHolder 65 (.iload_n 1) 1 66 := tvDl_get dlk_X9_otherHolder 37 rfl rfl
theorem dk_X9_otherHolder_66 : tvD cX9_otherHolder 66 (.iconst 0) 1 67 := tvDl_get dlk_X9_otherHolder 38 rfl rfl
theorem dk_X9_otherHolder_67 : tvD cX9_otherHolder 67 (.invokevirtual 55) 3 70 := tvDl_get dlk_X9_otherHolder 39 rfl rfl
theorem dk_X9_otherHolder_70 : tvD cX9_otherHolder 70 (.ireturn) 1 71 := tvDl_get dlk_X9_otherHolder 40 rfl rfl
def dl_X9_pearl : List (Nat × Instr × Nat) := [(0, .aload_n 0, 1), (1, .aload_n 0, 1), (2, .iload_n 1, 1), (3, .invokevirtual 113, 3), (6, .ifCond .ne 7, 3), (9, .iconst 1, 1), (10, .goto 4, 3), (13, .iconst 0, 1), (14, .iconst 1, 1), (15, .invokevirtual 62, 3), (18, .ifCond .ne 33, 3), (21, .aload_n 0, 1), (22, .iload_n 2, 1), (23, .iconst 0, 1), (24, .aload_n 0, 1), (25, .iload_n 1, 1), (26, .bipush 7, 2), (28, .invokevirtual 55, 3), (31, .iconst 1, 1), (32, .isub, 1), (33, .invokestatic 51, 3), (36, .ifCond .ne 7, 3), (39, .iconst 1, 1), (40, .goto 4, 3), (43, .iconst 0, 1), (44, .iconst 2, 1), (45, .invokevirtual 62, 3), (48, .ifCond .eq 7, 3), (51, .iconst 0, 1), (52, .goto 12, 3), (55, .aload_n 0, 1), (56, .iload_n 1, 1), (57, .bipush 8, 2), (59, .iload_n 2, 1), (60, .iadd, 1), (61, .invokevirtual 55, 3), (64, .ireturn, 1)]
theorem dlk_X9_pearl : tvDl cX9_pearl dl_X9_pearl = true := by decide +kernel
theorem dk_X9_pearl_0 : tvD cX9_pearl 0 (.aload_n 0) 1 1 := tvDl_get dlk_X9_pearl 0 rfl rfl
theorem dk_X9_pearl_1 : tvD cX9_pearl 1 (.aload_n 0) 1 2 := tvDl_get dlk_X9_pearl 1 rfl rfl
theorem dk_X9_pearl_2 : tvD cX9_pearl 2 (.iload_n 1) 1 3 := tvDl_get dlk_X9_pearl 2 rfl rfl
theorem dk_X9_pearl_3 : tvD cX9_pearl 3 (.invokevirtual 113) 3 6 := tvDl_get dlk_X9_pearl 3 rfl rfl
theorem dk_X9_pearl_6 : tvJ cX9_pearl 6 (.ifCond .ne) 13 9 := tvJl_get dlk_X9_pearl 4 rfl (by decide) rfl
theorem dk_X9_pearl_9 : tvD cX9_pearl 9 (.iconst 1) 1 10 := tvDl_get dlk_X9_pearl 5 rfl rfl
theorem dk_X9_pearl_10 : tvJ cX9_pearl 10 .goto 14 13 := tvJl_get dlk_X9_pearl 6 rfl (by decide) rfl
theorem dk_X9_pearl_13 : tvD cX9_pearl 13 (.iconst 0) 1 14 := tvDl_get dlk_X9_pearl 7 rfl rfl
theorem dk_X9_pearl_14 : tvD cX9_pearl 14 (.iconst 1) 1 15 := tvDl_get dlk_X9_pearl 8 rfl rfl
theorem dk_X9_pearl_15 : tvD cX9_pearl 15 (.invokevirtual 62) 3 18 := tvDl_get dlk_X9_pearl 9 rfl rfl
theorem dk_X9_pearl_18 : tvJ cX9_pearl 18 (.ifCond .ne) 51 21 := tvJl_get dlk_X9_pearl 10 rfl (by decide) rfl
theorem dk_X9_pearl_21 : tvD cX9_pearl 21 (.aload_n 0) 1 22 := tvDl_get dlk_X9_pearl 11 rfl rfl
theorem dk_X9_pearl_22 : tvD cX9_pearl 22 (.iload_n 2) 1 23 := tvDl_get dlk_X9_pearl 12 rfl rfl
theorem dk_X9_pearl_23 : tvD cX9_pearl 23 (.iconst 0) 1 24 := tvDl_get dlk_X9_pearl 13 rfl rfl
theorem dk_X9_pearl_24 : tvD cX9_pearl 24 (.aload_n 0) 1 25 := tvDl_get dlk_X9_pearl 14 rfl rfl
theorem dk_X9_pearl_25 : tvD cX9_pearl 25 (.iload_n 1) 1 26 := tvDl_get dlk_X9_pearl 15 rfl rfl
theorem dk_X9_pearl_26 : tvD cX9_pearl 26 (.bipush 7) 2 28 := tvDl_get dlk_X9_pearl 16 rfl rfl
theorem dk_X9_pearl_28 : tvD cX9_pearl 28 (.invokevirtual 55) 3 31 := tvDl_get dlk_X9_pearl 17 rfl rfl
theorem dk_X9_pearl_31 : tvD cX9_pearl 31 (.iconst 1) 1 32 := tvDl_get dlk_X9_pearl 18 rfl rfl
theorem dk_X9_pearl_32 : tvD cX9_pearl 32 (.isub) 1 33 := tvDl_get dlk_X9_pearl 19 rfl rfl
theorem dk_X9_pearl_33 : tvD cX9_pearl 33 (.invokestatic 51) 3 36 := tvDl_get dlk_X9_pearl 20 rfl rfl
theorem dk_X9_pearl_36 : tvJ cX9_pearl 36 (.ifCond .ne) 43 39 := tvJl_get dlk_X9_pearl 21 rfl (by decide) rfl
theorem dk_X9_pearl_39 : tvD cX9_pearl 39 (.iconst 1) 1 40 := tvDl_get dlk_X9_pearl 22 rfl rfl
theorem dk_X9_pearl_40 : tvJ cX9_pearl 40 .goto 44 43 := tvJl_get dlk_X9_pearl 23 rfl (by decide) rfl
theorem dk_X9_pearl_43 : tvD cX9_pearl 43 (.iconst 0) 1 44 := tvDl_get dlk_X9_pearl 24 rfl rfl
theorem dk_X9_pearl_44 : tvD cX9_pearl 44 (.iconst 2) 1 45 := tvDl_get dlk_X9_pearl 25 rfl rfl
theorem dk_X9_pearl_45 : tvD cX9_pearl 45 (.invokevirtual 62) 3 48 := tvDl_get dlk_X9_pearl 26 rfl rfl
theorem dk_X9_pearl_48 : tvJ cX9_pearl 48 (.ifCond .eq) 55 51 := tvJl_get dlk_X9_pearl 27 rfl (by decide) rfl
theorem dk_X9_pearl_51 : tvD cX9_pearl 51 (.iconst 0) 1 52 := tvDl_get dlk_X9_pearl 28 rfl rfl
theorem dk_X9_pearl_52 : tvJ cX9_pearl 52 .goto 64 55 := tvJl_get dlk_X9_pearl 29 rfl (by decide) rfl
theorem dk_X9_pearl_55 : tvD cX9_pearl 55 (.aload_n 0) 1 56 := tvDl_get dlk_X9_pearl 30 rfl rfl
theorem dk_X9_pearl_56 : tvD cX9_pearl 56 (.iload_n 1) 1 57 := tvDl_get dlk_X9_pearl 31 rfl rfl
theorem dk_X9_pearl_57 : tvD cX9_pearl 57 (.bipush 8) 2 59 := tvDl_get dlk_X9_pearl 32 rfl rfl
theorem dk_X9_pearl_59 : tvD cX9_pearl 59 (.iload_n 2) 1 60 := tvDl_get dlk_X9_pearl 33 rfl rfl
theorem dk_X9_pearl_60 : tvD cX9_pearl 60 (.iadd) 1 61 := tvDl_get dlk_X9_pearl 34 rfl rfl
theorem dk_X9_pearl_61 : tvD cX9_pearl 61 (.invokevirtual 55) 3 64 := tvDl_get dlk_X9_pearl 35 rfl rfl
theorem dk_X9_pearl_64 : tvD cX9_pearl 64 (.ireturn) 1 65 := tvDl_get dlk_X9_pearl 36 rfl rfl
def dl_X9_pearls : List (Nat × Instr × Nat) := [(0, .aload_n 0, 1), (1, .aload_n 0, 1), (2, .iload_n 1, 1), (3, .invokevirtual 113, 3), (6, .ifCond .ne 7, 3), (9, .iconst 1, 1), (10, .goto 4, 3), (13, .iconst 0, 1), (14, .iconst 1, 1), (15, .invokevirtual 62, 3), (18, .ifCond .eq 7, 3), (21, .iconst 0, 1), (22, .goto 10, 3), (25, .aload_n 0, 1), (26, .iload_n 1, 1), (27, .bipush 7, 2), (29, .invokevirtual 55, 3), (32, .ireturn, 1)]
theorem dlk_X9_pearls : tvDl cX9_pearls dl_X9_pearls = true := by decide +kernel
theorem dk_X9_pearls_0 : tvD cX9_pearls 0 (.aload_n 0) 1 1 := tvDl_get dlk_X9_pearls 0 rfl rfl
theorem dk_X9_pearls_1 : tvD cX9_pearls 1 (.aload_n 0) 1 2 := tvDl_get dlk_X9_pearls 1 rfl rfl
theorem dk_X9_pearls_2 : tvD cX9_pearls 2 (.iload_n 1) 1 3 := tvDl_get dlk_X9_pearls 2 rfl rfl
theorem dk_X9_pearls_3 : tvD cX9_pearls 3 (.invokevirtual 113) 3 6 := tvDl_get dlk_X9_pearls 3 rfl rfl
theorem dk_X9_pearls_6 : tvJ cX9_pearls 6 (.ifCond .ne) 13 9 := tvJl_get dlk_X9_pearls 4 rfl (by decide) rfl
theorem dk_X9_pearls_9 : tvD cX9_pearls 9 (.iconst 1) 1 10 := tvDl_get dlk_X9_pearls 5 rfl rfl
theorem dk_X9_pearls_10 : tvJ cX9_pearls 10 .goto 14 13 := tvJl_get dlk_X9_pearls 6 rfl (by decide) rfl
theorem dk_X9_pearls_13 : tvD cX9_pearls 13 (.iconst 0) 1 14 := tvDl_get dlk_X9_pearls 7 rfl rfl
theorem dk_X9_pearls_14 : tvD cX9_pearls 14 (.iconst 1) 1 15 := tvDl_get dlk_X9_pearls 8 rfl rfl
theorem dk_X9_pearls_15 : tvD cX9_pearls 15 (.invokevirtual 62) 3 18 := tvDl_get dlk_X9_pearls 9 rfl rfl
theorem dk_X9_pearls_18 : tvJ cX9_pearls 18 (.ifCond .eq) 25 21 := tvJl_get dlk_X9_pearls 10 rfl (by decide) rfl
theorem dk_X9_pearls_21 : tvD cX9_pearls 21 (.iconst 0) 1 22 := tvDl_get dlk_X9_pearls 11 rfl rfl
theorem dk_X9_pearls_22 : tvJ cX9_pearls 22 .goto 32 25 := tvJl_get dlk_X9_pearls 12 rfl (by decide) rfl
theorem dk_X9_pearls_25 : tvD cX9_pearls 25 (.aload_n 0) 1 26 := tvDl_get dlk_X9_pearls 13 rfl rfl
theorem dk_X9_pearls_26 : tvD cX9_pearls 26 (.iload_n 1) 1 27 := tvDl_get dlk_X9_pearls 14 rfl rfl
theorem dk_X9_pearls_27 : tvD cX9_pearls 27 (.bipush 7) 2 29 := tvDl_get dlk_X9_pearls 15 rfl rfl
theorem dk_X9_pearls_29 : tvD cX9_pearls 29 (.invokevirtual 55) 3 32 := tvDl_get dlk_X9_pearls 16 rfl rfl
theorem dk_X9_pearls_32 : tvD cX9_pearls 32 (.ireturn) 1 33 := tvDl_get dlk_X9_pearls 17 rfl rfl
def dl_X9_puts : List (Nat × Instr × Nat) := [(0, .aload_n 0, 1), (1, .getfield 29, 3), (4, .aload_n 0, 1), (5, .getfield 187, 3), (8, .iload_n 1, 1), (9, .iastore, 1), (10, .aload_n 0, 1), (11, .dup, 1), (12, .getfield 187, 3), (15, .iconst 1, 1), (16, .iadd, 1), (17, .putfield 187, 3), (20, .return_, 1)]
theorem dlk_X9_puts : tvDl cX9_puts dl_X9_puts = true := by decide +kernel
theorem dk_X9_puts_0 : tvD cX9_puts 0 (.aload_n 0) 1 1 := tvDl_get dlk_X9_puts 0 rfl rfl
theorem dk_X9_puts_1 : tvD cX9_puts 1 (.getfield 29) 3 4 := tvDl_get dlk_X9_puts 1 rfl rfl
theorem dk_X9_puts_4 : tvD cX9_puts 4 (.aload_n 0) 1 5 := tvDl_get dlk_X9_puts 2 rfl rfl
theorem dk_X9_puts_5 : tvD cX9_puts 5 (.getfield 187) 3 8 := tvDl_get dlk_X9_puts 3 rfl rfl
theorem dk_X9_puts_8 : tvD cX9_puts 8 (.iload_n 1) 1 9 := tvDl_get dlk_X9_puts 4 rfl rfl
theorem dk_X9_puts_9 : tvD cX9_puts 9 (.iastore) 1 10 := tvDl_get dlk_X9_puts 5 rfl rfl
theorem dk_X9_puts_10 : tvD cX9_puts 10 (.aload_n 0) 1 11 := tvDl_get dlk_X9_puts 6 rfl rfl
theorem dk_X9_puts_11 : tvD cX9_puts 11 (.dup) 1 12 := tvDl_get dlk_X9_puts 7 rfl rfl
theorem dk_X9_puts_12 : tvD cX9_puts 12 (.getfield 187) 3 15 := tvDl_get dlk_X9_puts 8 rfl rfl
theorem dk_X9_puts_15 : tvD cX9_puts 15 (.iconst 1) 1 16 := tvDl_get dlk_X9_puts 9 rfl rfl
theorem dk_X9_puts_16 : tvD cX9_puts 16 (.iadd) 1 17 := tvDl_get dlk_X9_puts 10 rfl rfl
theorem dk_X9_puts_17 : tvD cX9_puts 17 (.putfield 187) 3 20 := tvDl_get dlk_X9_puts 11 rfl rfl
theorem dk_X9_puts_20 : tvD cX9_puts 20 (.return_) 1 21 := tvDl_get dlk_X9_puts 12 rfl rfl
def dl_X9_remainingDelay : List (Nat × Instr × Nat) := [(0, .aload_n 0, 1), (1, .iload_n 1, 1), (2, .invokevirtual 168, 3), (5, .ifCond .eq 7, 3), (8, .iconst 0, 1), (9, .goto 10, 3), (12, .aload_n 0, 1), (13, .iload_n 1, 1), (14, .bipush 6, 2), (16, .invokevirtual 55, 3), (19, .ireturn, 1)]
theorem dlk_X9_remainingDelay : tvDl cX9_remainingDelay dl_X9_remainingDelay = true := by decide +kernel
theorem dk_X9_remainingDelay_0 : tvD cX9_remainingDelay 0 (.aload_n 0) 1 1 := tvDl_get dlk_X9_remainingDelay 0 rfl rfl
theorem dk_X9_remainingDelay_1 : tvD cX9_remainingDelay 1 (.iload_n 1) 1 2 := tvDl_get dlk_X9_remainingDelay 1 rfl rfl
theorem dk_X9_remainingDelay_2 : tvD cX9_remainingDelay 2 (.invokevirtual 168) 3 5 := tvDl_get dlk_X9_remainingDelay 2 rfl rfl
theorem dk_X9_remainingDelay_5 : tvJ cX9_remainingDelay 5 (.ifCond .eq) 12 8 := tvJl_get dlk_X9_remainingDelay 3 rfl (by decide) rfl
theorem dk_X9_remainingDelay_8 : tvD cX9_remainingDelay 8 (.iconst 0) 1 9 := tvDl_get dlk_X9_remainingDelay 4 rfl rfl
theorem dk_X9_remainingDelay_9 : tvJ cX9_remainingDelay 9 .goto 19 12 := tvJl_get dlk_X9_remainingDelay 5 rfl (by decide) rfl
theorem dk_X9_remainingDelay_12 : tvD cX9_remainingDelay 12 (.aload_n 0) 1 13 := tvDl_get dlk_X9_remainingDelay 6 rfl rfl
theorem dk_X9_remainingDelay_13 : tvD cX9_remainingDelay 13 (.iload_n 1) 1 14 := tvDl_get dlk_X9_remainingDelay 7 rfl rfl
theorem dk_X9_remainingDelay_14 : tvD cX9_remainingDelay 14 (.bipush 6) 2 16 := tvDl_get dlk_X9_remainingDelay 8 rfl rfl
theorem dk_X9_remainingDelay_16 : tvD cX9_remainingDelay 16 (.invokevirtual 55) 3 19 := tvDl_get dlk_X9_remainingDelay 9 rfl rfl
theorem dk_X9_remainingDelay_19 : tvD cX9_remainingDelay 19 (.ireturn) 1 20 := tvDl_get dlk_X9_remainingDelay 10 rfl rfl
def dl_X9_rings : List (Nat × Instr × Nat) := [(0, .aload_n 0, 1), (1, .getfield 9, 3), (4, .iconst 3, 1), (5, .aload_n 0, 1), (6, .getfield 9, 3), (9, .iconst 3, 1), (10, .iaload, 1), (11, .iload_n 1, 1), (12, .iadd, 1), (13, .bipush 99, 2), (15, .if_icmp .le 8, 3), (18, .bipush 99, 2), (20, .goto 11, 3), (23, .aload_n 0, 1), (24, .getfield 9, 3), (27, .iconst 3, 1), (28, .iaload, 1), (29, .iload_n 1, 1), (30, .iadd, 1), (31, .iastore, 1), (32, .return_, 1)]
theorem dlk_X9_rings : tvDl cX9_rings dl_X9_rings = true := by decide +kernel
theorem dk_X9_rings_0 : tvD cX9_rings 0 (.aload_n 0) 1 1 := tvDl_get dlk_X9_rings 0 rfl rfl
theorem dk_X9_rings_1 : tvD cX9_rings 1 (.getfield 9) 3 4 := tvDl_get dlk_X9_rings 1 rfl rfl
theorem dk_X9_rings_4 : tvD cX9_rings 4 (.iconst 3) 1 5 := tvDl_get dlk_X9_rings 2 rfl rfl
theorem dk_X9_rings_5 : tvD cX9_rings 5 (.aload_n 0) 1 6 := tvDl_get dlk_X9_rings 3 rfl rfl
theorem dk_X9_rings_6 : tvD cX9_rings 6 (.getfield 9) 3 9 := tvDl_get dlk_X9_rings 4 rfl rfl
theorem dk_X9_rings_9 : tvD cX9_rings 9 (.iconst 3) 1 10 := tvDl_get dlk_X9_rings 5 rfl rfl
theorem dk_X9_rings_10 : tvD cX9_rings 10 (.iaload) 1 11 := tvDl_get dlk_X9_rings 6 rfl rfl
theorem dk_X9_rings_11 : tvD cX9_rings 11 (.iload_n 1) 1 12 := tvDl_get dlk_X9_rings 7 rfl rfl
theorem dk_X9_rings_12 : tvD cX9_rings 12 (.iadd) 1 13 := tvDl_get dlk_X9_rings 8 rfl rfl
theorem dk_X9_rings_13 : tvD cX9_rings 13 (.bipush 99) 2 15 := tvDl_get dlk_X9_rings 9 rfl rfl
theorem dk_X9_rings_15 : tvJ cX9_rings 15 (.if_icmp .le) 23 18 := tvJl_get dlk_X9_rings 10 rfl (by decide) rfl
theorem dk_X9_rings_18 : tvD cX9_rings 18 (.bipush 99) 2 20 := tvDl_get dlk_X9_rings 11 rfl rfl
theorem dk_X9_rings_20 : tvJ cX9_rings 20 .goto 31 23 := tvJl_get dlk_X9_rings 12 rfl (by decide) rfl
theorem dk_X9_rings_23 : tvD cX9_rings 23 (.aload_n 0) 1 24 := tvDl_get dlk_X9_rings 13 rfl rfl
theorem dk_X9_rings_24 : tvD cX9_rings 24 (.getfield 9) 3 27 := tvDl_get dlk_X9_rings 14 rfl rfl
theorem dk_X9_rings_27 : tvD cX9_rings 27 (.iconst 3) 1 28 := tvDl_get dlk_X9_rings 15 rfl rfl
theorem dk_X9_rings_28 : tvD cX9_rings 28 (.iaload) 1 29 := tvDl_get dlk_X9_rings 16 rfl rfl
theorem dk_X9_rings_29 : tvD cX9_rings 29 (.iload_n 1) 1 30 := tvDl_get dlk_X9_rings 17 rfl rfl
theorem dk_X9_rings_30 : tvD cX9_rings 30 (.iadd) 1 31 := tvDl_get dlk_X9_rings 18 rfl rfl
theorem dk_X9_rings_31 : tvD cX9_rings 31 (.iastore) 1 32 := tvDl_get dlk_X9_rings 19 rfl rfl
theorem dk_X9_rings_32 : tvD cX9_rings 32 (.return_) 1 33 := tvDl_get dlk_X9_rings 20 rfl rfl
def dl_X9_sets : List (Nat × Instr × Nat) := [(0, .aload_n 0, 1), (1, .getfield 9, 3), (4, .bipush 36, 2), (6, .bipush 13, 2), (8, .iload_n 1, 1), (9, .imul, 1), (10, .iadd, 1), (11, .iload_n 2, 1), (12, .iadd, 1), (13, .iload_n 3, 1), (14, .iastore, 1), (15, .return_, 1)]
theorem dlk_X9_sets : tvDl cX9_sets dl_X9_sets = true := by decide +kernel
theorem dk_X9_sets_0 : tvD cX9_sets 0 (.aload_n 0) 1 1 := tvDl_get dlk_X9_sets 0 rfl rfl
theorem dk_X9_sets_1 : tvD cX9_sets 1 (.getfield 9) 3 4 := tvDl_get dlk_X9_sets 1 rfl rfl
theorem dk_X9_sets_4 : tvD cX9_sets 4 (.bipush 36) 2 6 := tvDl_get dlk_X9_sets 2 rfl rfl
theorem dk_X9_sets_6 : tvD cX9_sets 6 (.bipush 13) 2 8 := tvDl_get dlk_X9_sets 3 rfl rfl
theorem dk_X9_sets_8 : tvD cX9_sets 8 (.iload_n 1) 1 9 := tvDl_get dlk_X9_sets 4 rfl rfl
theorem dk_X9_sets_9 : tvD cX9_sets 9 (.imul) 1 10 := tvDl_get dlk_X9_sets 5 rfl rfl
theorem dk_X9_sets_10 : tvD cX9_sets 10 (.iadd) 1 11 := tvDl_get dlk_X9_sets 6 rfl rfl
theorem dk_X9_sets_11 : tvD cX9_sets 11 (.iload_n 2) 1 12 := tvDl_get dlk_X9_sets 7 rfl rfl
theorem dk_X9_sets_12 : tvD cX9_sets 12 (.iadd) 1 13 := tvDl_get dlk_X9_sets 8 rfl rfl
theorem dk_X9_sets_13 : tvD cX9_sets 13 (.iload_n 3) 1 14 := tvDl_get dlk_X9_sets 9 rfl rfl
theorem dk_X9_sets_14 : tvD cX9_sets 14 (.iastore) 1 15 := tvDl_get dlk_X9_sets 10 rfl rfl
theorem dk_X9_sets_15 : tvD cX9_sets 15 (.return_) 1 16 := tvDl_get dlk_X9_sets 11 rfl rfl
def dl_X9_setsHolder : List (Nat × Instr × Nat) := [(0, .aload_n 0, 1), (1, .getfield 9, 3), (4, .bipush 12, 2), (6, .iconst 3, 1), (7, .iload_n 1, 1), (8, .imul, 1), (9, .iadd, 1), (10, .iload_n 2, 1), (11, .iadd, 1), (12, .iload_n 3, 1), (13, .iastore, 1), (14, .return_, 1)]
theorem dlk_X9_setsHolder : tvDl cX9_setsHolder dl_X9_setsHolder = true := by decide +kernel
theorem dk_X9_setsHolder_0 : tvD cX9_setsHolder 0 (.aload_n 0) 1 1 := tvDl_get dlk_X9_setsHolder 0 rfl rfl
theorem dk_X9_setsHolder_1 : tvD cX9_setsHolder 1 (.getfield 9) 3 4 := tvDl_get dlk_X9_setsHolder 1 rfl rfl
theorem dk_X9_setsHolder_4 : tvD cX9_setsHolder 4 (.bipush 12) 2 6 := tvDl_get dlk_X9_setsHolder 2 rfl rfl
theorem dk_X9_setsHolder_6 : tvD cX9_setsHolder 6 (.iconst 3) 1 7 := tvDl_get dlk_X9_setsHolder 3 rfl rfl
theorem dk_X9_setsHolder_7 : tvD cX9_setsHolder 7 (.iload_n 1) 1 8 := tvDl_get dlk_X9_setsHolder 4 rfl rfl
theorem dk_X9_setsHolder_8 : tvD cX9_setsHolder 8 (.imul) 1 9 := tvDl_get dlk_X9_setsHolder 5 rfl rfl
theorem dk_X9_setsHolder_9 : tvD cX9_setsHolder 9 (.iadd) 1 10 := tvDl_get dlk_X9_setsHolder 6 rfl rfl
theorem dk_X9_setsHolder_10 : tvD cX9_setsHolder 10 (.iload_n 2) 1 11 := tvDl_get dlk_X9_setsHolder 7 rfl rfl
theorem dk_X9_setsHolder_11 : tvD cX9_setsHolder 11 (.iadd) 1 12 := tvDl_get dlk_X9_setsHolder 8 rfl rfl
theorem dk_X9_setsHolder_12 : tvD cX9_setsHolder 12 (.iload_n 3) 1 13 := tvDl_get dlk_X9_setsHolder 9 rfl rfl
theorem dk_X9_setsHolder_13 : tvD cX9_setsHolder 13 (.iastore) 1 14 := tvDl_get dlk_X9_setsHolder 10 rfl rfl
theorem dk_X9_setsHolder_14 : tvD cX9_setsHolder 14 (.return_) 1 15 := tvDl_get dlk_X9_setsHolder 11 rfl rfl
def dl_X9_sign : List (Nat × Instr × Nat) := [(0, .ldc 102, 2), (2, .iload_n 0, 1), (3, .invokevirtual 104, 3), (6, .ireturn, 1)]
theorem dlk_X9_sign : tvDl cX9_sign dl_X9_sign = true := by decide +kernel
theorem dk_X9_sign_0 : tvD cX9_sign 0 (.ldc 102) 2 2 := tvDl_get dlk_X9_sign 0 rfl rfl
theorem dk_X9_sign_2 : tvD cX9_sign 2 (.iload_n 0) 1 3 := tvDl_get dlk_X9_sign 1 rfl rfl
theorem dk_X9_sign_3 : tvD cX9_sign 3 (.invokevirtual 104) 3 6 := tvDl_get dlk_X9_sign 2 rfl rfl
theorem dk_X9_sign_6 : tvD cX9_sign 6 (.ireturn) 1 7 := tvDl_get dlk_X9_sign 3 rfl rfl
def dl_X9_status : List (Nat × Instr × Nat) := [(0, .aload_n 0, 1), (1, .aload_n 0, 1), (2, .iload_n 1, 1), (3, .invokevirtual 113, 3), (6, .ifCond .ne 7, 3), (9, .iconst 1, 1), (10, .goto 4, 3), (13, .iconst 0, 1), (14, .iconst 1, 1), (15, .invokevirtual 62, 3), (18, .ifCond .eq 7, 3), (21, .iconst 0, 1), (22, .goto 13, 3), (25, .aload_n 0, 1), (26, .iload_n 1, 1), (27, .iconst 3, 1), (28, .invokevirtual 55, 3), (31, .invokestatic 132, 3), (34, .i2c, 1), (35, .ireturn, 1)]
theorem dlk_X9_status : tvDl cX9_status dl_X9_status = true := by decide +kernel
theorem dk_X9_status_0 : tvD cX9_status 0 (.aload_n 0) 1 1 := tvDl_get dlk_X9_status 0 rfl rfl
theorem dk_X9_status_1 : tvD cX9_status 1 (.aload_n 0) 1 2 := tvDl_get dlk_X9_status 1 rfl rfl
theorem dk_X9_status_2 : tvD cX9_status 2 (.iload_n 1) 1 3 := tvDl_get dlk_X9_status 2 rfl rfl
theorem dk_X9_status_3 : tvD cX9_status 3 (.invokevirtual 113) 3 6 := tvDl_get dlk_X9_status 3 rfl rfl
theorem dk_X9_status_6 : tvJ cX9_status 6 (.ifCond .ne) 13 9 := tvJl_get dlk_X9_status 4 rfl (by decide) rfl
theorem dk_X9_status_9 : tvD cX9_status 9 (.iconst 1) 1 10 := tvDl_get dlk_X9_status 5 rfl rfl
theorem dk_X9_status_10 : tvJ cX9_status 10 .goto 14 13 := tvJl_get dlk_X9_status 6 rfl (by decide) rfl
theorem dk_X9_status_13 : tvD cX9_status 13 (.iconst 0) 1 14 := tvDl_get dlk_X9_status 7 rfl rfl
theorem dk_X9_status_14 : tvD cX9_status 14 (.iconst 1) 1 15 := tvDl_get dlk_X9_status 8 rfl rfl
theorem dk_X9_status_15 : tvD cX9_status 15 (.invokevirtual 62) 3 18 := tvDl_get dlk_X9_status 9 rfl rfl
theorem dk_X9_status_18 : tvJ cX9_status 18 (.ifCond .eq) 25 21 := tvJl_get dlk_X9_status 10 rfl (by decide) rfl
theorem dk_X9_status_21 : tvD cX9_status 21 (.iconst 0) 1 22 := tvDl_get dlk_X9_status 11 rfl rfl
theorem dk_X9_status_22 : tvJ cX9_status 22 .goto 35 25 := tvJl_get dlk_X9_status 12 rfl (by decide) rfl
theorem dk_X9_status_25 : tvD cX9_status 25 (.aload_n 0) 1 26 := tvDl_get dlk_X9_status 13 rfl rfl
theorem dk_X9_status_26 : tvD cX9_status 26 (.iload_n 1) 1 27 := tvDl_get dlk_X9_status 14 rfl rfl
theorem dk_X9_status_27 : tvD cX9_status 27 (.iconst 3) 1 28 := tvDl_get dlk_X9_status 15 rfl rfl
theorem dk_X9_status_28 : tvD cX9_status 28 (.invokevirtual 55) 3 31 := tvDl_get dlk_X9_status 16 rfl rfl
theorem dk_X9_status_31 : tvD cX9_status 31 (.invokestatic 132) 3 34 := tvDl_get dlk_X9_status 17 rfl rfl
theorem dk_X9_status_34 : tvD cX9_status 34 (.i2c) 1 35 := tvDl_get dlk_X9_status 18 rfl rfl
theorem dk_X9_status_35 : tvD cX9_status 35 (.ireturn) 1 36 := tvDl_get dlk_X9_status 19 rfl rfl
def dl_X9_thrown : List (Nat × Instr × Nat) := [(0, .aload_n 0, 1), (1, .getfield 38, 3), (4, .ireturn, 1)]
theorem dlk_X9_thrown : tvDl cX9_thrown dl_X9_thrown = true := by decide +kernel
theorem dk_X9_thrown_0 : tvD cX9_thrown 0 (.aload_n 0) 1 1 := tvDl_get dlk_X9_thrown 0 rfl rfl
theorem dk_X9_thrown_1 : tvD cX9_thrown 1 (.getfield 38) 3 4 := tvDl_get dlk_X9_thrown 1 rfl rfl
theorem dk_X9_thrown_4 : tvD cX9_thrown 4 (.ireturn) 1 5 := tvDl_get dlk_X9_thrown 2 rfl rfl
def dl_X9_tides : List (Nat × Instr × Nat) := [(0, .aload_n 0, 1), (1, .iload_n 1, 1), (2, .bipush 60, 2), (4, .sipush 480, 3), (7, .invokestatic 51, 3), (10, .ifCond .eq 13, 3), (13, .iload_n 2, 1), (14, .bipush 10, 2), (16, .iload_n 1, 1), (17, .invokestatic 51, 3), (20, .ifCond .ne 7, 3), (23, .iconst 1, 1), (24, .goto 4, 3), (27, .iconst 0, 1), (28, .iconst 1, 1), (29, .invokevirtual 62, 3), (32, .ifCond .eq 5, 3), (35, .iconst 0, 1), (36, .ireturn, 1), (37, .aload_n 0, 1), (38, .getfield 9, 3), (41, .iconst 1, 1), (42, .iaload, 1), (43, .istore_n 3, 1), (44, .aload_n 0, 1), (45, .getfield 9, 3), (48, .iconst 1, 1), (49, .iload_n 1, 1), (50, .iastore, 1), (51, .aload_n 0, 1), (52, .getfield 9, 3), (55, .iconst 2, 1), (56, .iload_n 2, 1), (57, .iastore, 1), (58, .iload_n 3, 1), (59, .ireturn, 1)]
theorem dlk_X9_tides : tvDl cX9_tides dl_X9_tides = true := by decide +kernel
theorem dk_X9_tides_0 : tvD cX9_tides 0 (.aload_n 0) 1 1 := tvDl_get dlk_X9_tides 0 rfl rfl
theorem dk_X9_tides_1 : tvD cX9_tides 1 (.iload_n 1) 1 2 := tvDl_get dlk_X9_tides 1 rfl rfl
theorem dk_X9_tides_2 : tvD cX9_tides 2 (.bipush 60) 2 4 := tvDl_get dlk_X9_tides 2 rfl rfl
theorem dk_X9_tides_4 : tvD cX9_tides 4 (.sipush 480) 3 7 := tvDl_get dlk_X9_tides 3 rfl rfl
theorem dk_X9_tides_7 : tvD cX9_tides 7 (.invokestatic 51) 3 10 := tvDl_get dlk_X9_tides 4 rfl rfl
theorem dk_X9_tides_10 : tvJ cX9_tides 10 (.ifCond .eq) 23 13 := tvJl_get dlk_X9_tides 5 rfl (by decide) rfl
theorem dk_X9_tides_13 : tvD cX9_tides 13 (.iload_n 2) 1 14 := tvDl_get dlk_X9_tides 6 rfl rfl
theorem dk_X9_tides_14 : tvD cX9_tides 14 (.bipush 10) 2 16 := tvDl_get dlk_X9_tides 7 rfl rfl
theorem dk_X9_tides_16 : tvD cX9_tides 16 (.iload_n 1) 1 17 := tvDl_get dlk_X9_tides 8 rfl rfl
theorem dk_X9_tides_17 : tvD cX9_tides 17 (.invokestatic 51) 3 20 := tvDl_get dlk_X9_tides 9 rfl rfl
theorem dk_X9_tides_20 : tvJ cX9_tides 20 (.ifCond .ne) 27 23 := tvJl_get dlk_X9_tides 10 rfl (by decide) rfl
theorem dk_X9_tides_23 : tvD cX9_tides 23 (.iconst 1) 1 24 := tvDl_get dlk_X9_tides 11 rfl rfl
theorem dk_X9_tides_24 : tvJ cX9_tides 24 .goto 28 27 := tvJl_get dlk_X9_tides 12 rfl (by decide) rfl
theorem dk_X9_tides_27 : tvD cX9_tides 27 (.iconst 0) 1 28 := tvDl_get dlk_X9_tides 13 rfl rfl
theorem dk_X9_tides_28 : tvD cX9_tides 28 (.iconst 1) 1 29 := tvDl_get dlk_X9_tides 14 rfl rfl
theorem dk_X9_tides_29 : tvD cX9_tides 29 (.invokevirtual 62) 3 32 := tvDl_get dlk_X9_tides 15 rfl rfl
theorem dk_X9_tides_32 : tvJ cX9_tides 32 (.ifCond .eq) 37 35 := tvJl_get dlk_X9_tides 16 rfl (by decide) rfl
theorem dk_X9_tides_35 : tvD cX9_tides 35 (.iconst 0) 1 36 := tvDl_get dlk_X9_tides 17 rfl rfl
theorem dk_X9_tides_36 : tvD cX9_tides 36 (.ireturn) 1 37 := tvDl_get dlk_X9_tides 18 rfl rfl
theorem dk_X9_tides_37 : tvD cX9_tides 37 (.aload_n 0) 1 38 := tvDl_get dlk_X9_tides 19 rfl rfl
theorem dk_X9_tides_38 : tvD cX9_tides 38 (.getfield 9) 3 41 := tvDl_get dlk_X9_tides 20 rfl rfl
theorem dk_X9_tides_41 : tvD cX9_tides 41 (.iconst 1) 1 42 := tvDl_get dlk_X9_tides 21 rfl rfl
theorem dk_X9_tides_42 : tvD cX9_tides 42 (.iaload) 1 43 := tvDl_get dlk_X9_tides 22 rfl rfl
theorem dk_X9_tides_43 : tvD cX9_tides 43 (.istore_n 3) 1 44 := tvDl_get dlk_X9_tides 23 rfl rfl
theorem dk_X9_tides_44 : tvD cX9_tides 44 (.aload_n 0) 1 45 := tvDl_get dlk_X9_tides 24 rfl rfl
theorem dk_X9_tides_45 : tvD cX9_tides 45 (.getfield 9) 3 48 := tvDl_get dlk_X9_tides 25 rfl rfl
theorem dk_X9_tides_48 : tvD cX9_tides 48 (.iconst 1) 1 49 := tvDl_get dlk_X9_tides 26 rfl rfl
theorem dk_X9_tides_49 : tvD cX9_tides 49 (.iload_n 1) 1 50 := tvDl_get dlk_X9_tides 27 rfl rfl
theorem dk_X9_tides_50 : tvD cX9_tides 50 (.iastore) 1 51 := tvDl_get dlk_X9_tides 28 rfl rfl
theorem dk_X9_tides_51 : tvD cX9_tides 51 (.aload_n 0) 1 52 := tvDl_get dlk_X9_tides 29 rfl rfl
theorem dk_X9_tides_52 : tvD cX9_tides 52 (.getfield 9) 3 55 := tvDl_get dlk_X9_tides 30 rfl rfl
theorem dk_X9_tides_55 : tvD cX9_tides 55 (.iconst 2) 1 56 := tvDl_get dlk_X9_tides 31 rfl rfl
theorem dk_X9_tides_56 : tvD cX9_tides 56 (.iload_n 2) 1 57 := tvDl_get dlk_X9_tides 32 rfl rfl
theorem dk_X9_tides_57 : tvD cX9_tides 57 (.iastore) 1 58 := tvDl_get dlk_X9_tides 33 rfl rfl
theorem dk_X9_tides_58 : tvD cX9_tides 58 (.iload_n 3) 1 59 := tvDl_get dlk_X9_tides 34 rfl rfl
theorem dk_X9_tides_59 : tvD cX9_tides 59 (.ireturn) 1 60 := tvDl_get dlk_X9_tides 35 rfl rfl
def dl_X9_time : List (Nat × Instr × Nat) := [(0, .aload_n 0, 1), (1, .iconst 0, 1), (2, .putfield 38, 3), (5, .aload_n 0, 1), (6, .getfield 9, 3), (9, .iconst 0, 1), (10, .iaload, 1), (11, .ireturn, 1)]
theorem dlk_X9_time : tvDl cX9_time dl_X9_time = true := by decide +kernel
theorem dk_X9_time_0 : tvD cX9_time 0 (.aload_n 0) 1 1 := tvDl_get dlk_X9_time 0 rfl rfl
theorem dk_X9_time_1 : tvD cX9_time 1 (.iconst 0) 1 2 := tvDl_get dlk_X9_time 1 rfl rfl
theorem dk_X9_time_2 : tvD cX9_time 2 (.putfield 38) 3 5 := tvDl_get dlk_X9_time 2 rfl rfl
theorem dk_X9_time_5 : tvD cX9_time 5 (.aload_n 0) 1 6 := tvDl_get dlk_X9_time 3 rfl rfl
theorem dk_X9_time_6 : tvD cX9_time 6 (.getfield 9) 3 9 := tvDl_get dlk_X9_time 4 rfl rfl
theorem dk_X9_time_9 : tvD cX9_time 9 (.iconst 0) 1 10 := tvDl_get dlk_X9_time 5 rfl rfl
theorem dk_X9_time_10 : tvD cX9_time 10 (.iaload) 1 11 := tvDl_get dlk_X9_time 6 rfl rfl
theorem dk_X9_time_11 : tvD cX9_time 11 (.ireturn) 1 12 := tvDl_get dlk_X9_time 7 rfl rfl
def dl_X9_totalValueByLedger : List (Nat × Instr × Nat) := [(0, .aload_n 0, 1), (1, .iconst 0, 1), (2, .putfield 38, 3), (5, .aload_n 0, 1), (6, .getfield 9, 3), (9, .bipush 6, 2), (11, .iaload, 1), (12, .i2l, 1), (13, .aload_n 0, 1), (14, .getfield 9, 3), (17, .bipush 7, 2), (19, .iaload, 1), (20, .i2l, 1), (21, .lsub, 1), (22, .lreturn, 1)]
theorem dlk_X9_totalValueByLedger : tvDl cX9_totalValueByLedger dl_X9_totalValueByLedger = true := by decide +kernel
theorem dk_X9_totalValueByLedger_0 : tvD cX9_totalValueByLedger 0 (.aload_n 0) 1 1 := tvDl_get dlk_X9_totalValueByLedger 0 rfl rfl
theorem dk_X9_totalValueByLedger_1 : tvD cX9_totalValueByLedger 1 (.iconst 0) 1 2 := tvDl_get dlk_X9_totalValueByLedger 1 rfl rfl
theorem dk_X9_totalValueByLedger_2 : tvD cX9_totalValueByLedger 2 (.putfield 38) 3 5 := tvDl_get dlk_X9_totalValueByLedger 2 rfl rfl
theorem dk_X9_totalValueByLedger_5 : tvD cX9_totalValueByLedger 5 (.aload_n 0) 1 6 := tvDl_get dlk_X9_totalValueByLedger 3 rfl rfl
theorem dk_X9_totalValueByLedger_6 : tvD cX9_totalValueByLedger 6 (.getfield 9) 3 9 := tvDl_get dlk_X9_totalValueByLedger 4 rfl rfl
theorem dk_X9_totalValueByLedger_9 : tvD cX9_totalValueByLedger 9 (.bipush 6) 2 11 := tvDl_get dlk_X9_totalValueByLedger 5 rfl rfl
theorem dk_X9_totalValueByLedger_11 : tvD cX9_totalValueByLedger 11 (.iaload) 1 12 := tvDl_get dlk_X9_totalValueByLedger 6 rfl rfl
theorem dk_X9_totalValueByLedger_12 : tvD cX9_totalValueByLedger 12 (.i2l) 1 13 := tvDl_get dlk_X9_totalValueByLedger 7 rfl rfl
theorem dk_X9_totalValueByLedger_13 : tvD cX9_totalValueByLedger 13 (.aload_n 0) 1 14 := tvDl_get dlk_X9_totalValueByLedger 8 rfl rfl
theorem dk_X9_totalValueByLedger_14 : tvD cX9_totalValueByLedger 14 (.getfield 9) 3 17 := tvDl_get dlk_X9_totalValueByLedger 9 rfl rfl
theorem dk_X9_totalValueByLedger_17 : tvD cX9_totalValueByLedger 17 (.bipush 7) 2 19 := tvDl_get dlk_X9_totalValueByLedger 10 rfl rfl
theorem dk_X9_totalValueByLedger_19 : tvD cX9_totalValueByLedger 19 (.iaload) 1 20 := tvDl_get dlk_X9_totalValueByLedger 11 rfl rfl
theorem dk_X9_totalValueByLedger_20 : tvD cX9_totalValueByLedger 20 (.i2l) 1 21 := tvDl_get dlk_X9_totalValueByLedger 12 rfl rfl
theorem dk_X9_totalValueByLedger_21 : tvD cX9_totalValueByLedger 21 (.lsub) 1 22 := tvDl_get dlk_X9_totalValueByLedger 13 rfl rfl
theorem dk_X9_totalValueByLedger_22 : tvD cX9_totalValueByLedger 22 (.lreturn) 1 23 := tvDl_get dlk_X9_totalValueByLedger 14 rfl rfl
def dl_X9_type : List (Nat × Instr × Nat) := [(0, .aload_n 0, 1), (1, .aload_n 0, 1), (2, .getfield 196, 3), (5, .bipush 60, 2), (7, .if_icmp .ne 7, 3), (10, .iconst 1, 1), (11, .goto 4, 3), (14, .iconst 0, 1), (15, .iconst 1, 1), (16, .invokevirtual 62, 3), (19, .ifCond .eq 5, 3), (22, .iconst 0, 1), (23, .ireturn, 1), (24, .aload_n 0, 1), (25, .getfield 32, 3), (28, .aload_n 0, 1), (29, .getfield 196, 3), (32, .iload_n 1, 1), (33, .iastore, 1), (34, .aload_n 0, 1), (35, .dup, 1), (36, .getfield 196, 3), (39, .iconst 1, 1), (40, .iadd, 1), (41, .putfield 196, 3), (44, .aload_n 0, 1), (45, .getfield 196, 3), (48, .ireturn, 1)]
theorem dlk_X9_type : tvDl cX9_type dl_X9_type = true := by decide +kernel
theorem dk_X9_type_0 : tvD cX9_type 0 (.aload_n 0) 1 1 := tvDl_get dlk_X9_type 0 rfl rfl
theorem dk_X9_type_1 : tvD cX9_type 1 (.aload_n 0) 1 2 := tvDl_get dlk_X9_type 1 rfl rfl
theorem dk_X9_type_2 : tvD cX9_type 2 (.getfield 196) 3 5 := tvDl_get dlk_X9_type 2 rfl rfl
theorem dk_X9_type_5 : tvD cX9_type 5 (.bipush 60) 2 7 := tvDl_get dlk_X9_type 3 rfl rfl
theorem dk_X9_type_7 : tvJ cX9_type 7 (.if_icmp .ne) 14 10 := tvJl_get dlk_X9_type 4 rfl (by decide) rfl
theorem dk_X9_type_10 : tvD cX9_type 10 (.iconst 1) 1 11 := tvDl_get dlk_X9_type 5 rfl rfl
theorem dk_X9_type_11 : tvJ cX9_type 11 .goto 15 14 := tvJl_get dlk_X9_type 6 rfl (by decide) rfl
theorem dk_X9_type_14 : tvD cX9_type 14 (.iconst 0) 1 15 := tvDl_get dlk_X9_type 7 rfl rfl
theorem dk_X9_type_15 : tvD cX9_type 15 (.iconst 1) 1 16 := tvDl_get dlk_X9_type 8 rfl rfl
theorem dk_X9_type_16 : tvD cX9_type 16 (.invokevirtual 62) 3 19 := tvDl_get dlk_X9_type 9 rfl rfl
theorem dk_X9_type_19 : tvJ cX9_type 19 (.ifCond .eq) 24 22 := tvJl_get dlk_X9_type 10 rfl (by decide) rfl
theorem dk_X9_type_22 : tvD cX9_type 22 (.iconst 0) 1 23 := tvDl_get dlk_X9_type 11 rfl rfl
theorem dk_X9_type_23 : tvD cX9_type 23 (.ireturn) 1 24 := tvDl_get dlk_X9_type 12 rfl rfl
theorem dk_X9_type_24 : tvD cX9_type 24 (.aload_n 0) 1 25 := tvDl_get dlk_X9_type 13 rfl rfl
theorem dk_X9_type_25 : tvD cX9_type 25 (.getfield 32) 3 28 := tvDl_get dlk_X9_type 14 rfl rfl
theorem dk_X9_type_28 : tvD cX9_type 28 (.aload_n 0) 1 29 := tvDl_get dlk_X9_type 15 rfl rfl
theorem dk_X9_type_29 : tvD cX9_type 29 (.getfield 196) 3 32 := tvDl_get dlk_X9_type 16 rfl rfl
theorem dk_X9_type_32 : tvD cX9_type 32 (.iload_n 1) 1 33 := tvDl_get dlk_X9_type 17 rfl rfl
theorem dk_X9_type_33 : tvD cX9_type 33 (.iastore) 1 34 := tvDl_get dlk_X9_type 18 rfl rfl
theorem dk_X9_type_34 : tvD cX9_type 34 (.aload_n 0) 1 35 := tvDl_get dlk_X9_type 19 rfl rfl
theorem dk_X9_type_35 : tvD cX9_type 35 (.dup) 1 36 := tvDl_get dlk_X9_type 20 rfl rfl
theorem dk_X9_type_36 : tvD cX9_type 36 (.getfield 196) 3 39 := tvDl_get dlk_X9_type 21 rfl rfl
theorem dk_X9_type_39 : tvD cX9_type 39 (.iconst 1) 1 40 := tvDl_get dlk_X9_type 22 rfl rfl
theorem dk_X9_type_40 : tvD cX9_type 40 (.iadd) 1 41 := tvDl_get dlk_X9_type 23 rfl rfl
theorem dk_X9_type_41 : tvD cX9_type 41 (.putfield 196) 3 44 := tvDl_get dlk_X9_type 24 rfl rfl
theorem dk_X9_type_44 : tvD cX9_type 44 (.aload_n 0) 1 45 := tvDl_get dlk_X9_type 25 rfl rfl
theorem dk_X9_type_45 : tvD cX9_type 45 (.getfield 196) 3 48 := tvDl_get dlk_X9_type 26 rfl rfl
theorem dk_X9_type_48 : tvD cX9_type 48 (.ireturn) 1 49 := tvDl_get dlk_X9_type 27 rfl rfl
def dl_X9_wasWrongCode : List (Nat × Instr × Nat) := [(0, .aload_n 0, 1), (1, .aload_n 0, 1), (2, .getfield 26, 3), (5, .ifCond .ge 7, 3), (8, .iconst 1, 1), (9, .goto 4, 3), (12, .iconst 0, 1), (13, .iconst 1, 1), (14, .invokevirtual 62, 3), (17, .ifCond .ne 14, 3), (20, .aload_n 0, 1), (21, .getfield 269, 3), (24, .ifCond .eq 7, 3), (27, .iconst 1, 1), (28, .goto 4, 3), (31, .iconst 0, 1), (32, .ireturn, 1)]
theorem dlk_X9_wasWrongCode : tvDl cX9_wasWrongCode dl_X9_wasWrongCode = true := by decide +kernel
theorem dk_X9_wasWrongCode_0 : tvD cX9_wasWrongCode 0 (.aload_n 0) 1 1 := tvDl_get dlk_X9_wasWrongCode 0 rfl rfl
theorem dk_X9_wasWrongCode_1 : tvD cX9_wasWrongCode 1 (.aload_n 0) 1 2 := tvDl_get dlk_X9_wasWrongCode 1 rfl rfl
theorem dk_X9_wasWrongCode_2 : tvD cX9_wasWrongCode 2 (.getfield 26) 3 5 := tvDl_get dlk_X9_wasWrongCode 2 rfl rfl
theorem dk_X9_wasWrongCode_5 : tvJ cX9_wasWrongCode 5 (.ifCond .ge) 12 8 := tvJl_get dlk_X9_wasWrongCode 3 rfl (by decide) rfl
theorem dk_X9_wasWrongCode_8 : tvD cX9_wasWrongCode 8 (.iconst 1) 1 9 := tvDl_get dlk_X9_wasWrongCode 4 rfl rfl
theorem dk_X9_wasWrongCode_9 : tvJ cX9_wasWrongCode 9 .goto 13 12 := tvJl_get dlk_X9_wasWrongCode 5 rfl (by decide) rfl
theorem dk_X9_wasWrongCode_12 : tvD cX9_wasWrongCode 12 (.iconst 0) 1 13 := tvDl_get dlk_X9_wasWrongCode 6 rfl rfl
theorem dk_X9_wasWrongCode_13 : tvD cX9_wasWrongCode 13 (.iconst 1) 1 14 := tvDl_get dlk_X9_wasWrongCode 7 rfl rfl
theorem dk_X9_wasWrongCode_14 : tvD cX9_wasWrongCode 14 (.invokevirtual 62) 3 17 := tvDl_get dlk_X9_wasWrongCode 8 rfl rfl
theorem dk_X9_wasWrongCode_17 : tvJ cX9_wasWrongCode 17 (.ifCond .ne) 31 20 := tvJl_get dlk_X9_wasWrongCode 9 rfl (by decide) rfl
theorem dk_X9_wasWrongCode_20 : tvD cX9_wasWrongCode 20 (.aload_n 0) 1 21 := tvDl_get dlk_X9_wasWrongCode 10 rfl rfl
theorem dk_X9_wasWrongCode_21 : tvD cX9_wasWrongCode 21 (.getfield 269) 3 24 := tvDl_get dlk_X9_wasWrongCode 11 rfl rfl
theorem dk_X9_wasWrongCode_24 : tvJ cX9_wasWrongCode 24 (.ifCond .eq) 31 27 := tvJl_get dlk_X9_wasWrongCode 12 rfl (by decide) rfl
theorem dk_X9_wasWrongCode_27 : tvD cX9_wasWrongCode 27 (.iconst 1) 1 28 := tvDl_get dlk_X9_wasWrongCode 13 rfl rfl
theorem dk_X9_wasWrongCode_28 : tvJ cX9_wasWrongCode 28 .goto 32 31 := tvJl_get dlk_X9_wasWrongCode 14 rfl (by decide) rfl
theorem dk_X9_wasWrongCode_31 : tvD cX9_wasWrongCode 31 (.iconst 0) 1 32 := tvDl_get dlk_X9_wasWrongCode 15 rfl rfl
theorem dk_X9_wasWrongCode_32 : tvD cX9_wasWrongCode 32 (.ireturn) 1 33 := tvDl_get dlk_X9_wasWrongCode 16 rfl rfl
