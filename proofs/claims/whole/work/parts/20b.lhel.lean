theorem ml_RL_7 : Cond.methodLink RL 7 yX8_addHolder ∈ tvGW := tvgc (tvc_2 (List.mem_of_getElem? (i := 234) (by decide +kernel))) rfl
theorem ml_RL_17 : Cond.methodLink RL 17 yX8_addBox ∈ tvGW := tvgc (tvc_3 (List.mem_of_getElem? (i := 190) (by decide +kernel))) rfl
theorem ml_RL_23 : Cond.methodLink RL 23 yX8_setTide ∈ tvGW := tvgc (tvc_3 (List.mem_of_getElem? (i := 209) (by decide +kernel))) rfl
theorem ml_RL_27 : Cond.methodLink RL 27 yX8_turnKey ∈ tvGW := tvgc (tvc_3 (List.mem_of_getElem? (i := 225) (by decide +kernel))) rfl
theorem ml_RL_33 : Cond.methodLink RL 33 yX8_changeCode ∈ tvGW := tvgc (tvc_4 (List.mem_of_getElem? (i := 67) (by decide +kernel))) rfl
theorem ml_RL_36 : Cond.methodLink RL 36 yX8_deposit ∈ tvGW := tvgc (tvc_4 (List.mem_of_getElem? (i := 86) (by decide +kernel))) rfl
theorem ml_RL_39 : Cond.methodLink RL 39 yX8_withdraw ∈ tvGW := tvgc (tvc_4 (List.mem_of_getElem? (i := 114) (by decide +kernel))) rfl
theorem ml_RL_44 : Cond.methodLink RL 44 yX8_close ∈ tvGW := tvgc (tvc_4 (List.mem_of_getElem? (i := 133) (by decide +kernel))) rfl
theorem ml_RL_47 : Cond.methodLink RL 47 yX8_pass ∈ tvGW := tvgc (tvc_4 (List.mem_of_getElem? (i := 145) (by decide +kernel))) rfl
theorem ml_RL_50 : Cond.methodLink RL 50 yX8_lowMinutes ∈ tvGW := tvgc (tvc_4 (List.mem_of_getElem? (i := 161) (by decide +kernel))) rfl
theorem ml_RL_53 : Cond.methodLink RL 53 yX8_lowMinutesByCounting ∈ tvGW := tvgc (tvc_4 (List.mem_of_getElem? (i := 173) (by decide +kernel))) rfl
theorem ml_RL_56 : Cond.methodLink RL 56 yX8_attempts ∈ tvGW := tvgc (tvc_4 (List.mem_of_getElem? (i := 181) (by decide +kernel))) rfl
theorem ml_RL_59 : Cond.methodLink RL 59 yX8_minutesLocked ∈ tvGW := tvgc (tvc_4 (List.mem_of_getElem? (i := 194) (by decide +kernel))) rfl
theorem ml_RL_62 : Cond.methodLink RL 62 yX8_boxesOf ∈ tvGW := tvgc (tvc_4 (List.mem_of_getElem? (i := 202) (by decide +kernel))) rfl
theorem ml_RL_65 : Cond.methodLink RL 65 yX8_otherHolder ∈ tvGW := tvgc (tvc_4 (List.mem_of_getElem? (i := 214) (by decide +kernel))) rfl
theorem ml_RL_68 : Cond.methodLink RL 68 yX8_status ∈ tvGW := tvgc (tvc_4 (List.mem_of_getElem? (i := 232) (by decide +kernel))) rfl
theorem ml_RL_72 : Cond.methodLink RL 72 yX8_firstHolder ∈ tvGW := tvgc (tvc_5 (List.mem_of_getElem? (i := 0) (by decide +kernel))) rfl
theorem ml_RL_75 : Cond.methodLink RL 75 yX8_remainingDelay ∈ tvGW := tvgc (tvc_5 (List.mem_of_getElem? (i := 12) (by decide +kernel))) rfl
theorem ml_RL_78 : Cond.methodLink RL 78 yX8_minutesUntilOpen ∈ tvGW := tvgc (tvc_5 (List.mem_of_getElem? (i := 20) (by decide +kernel))) rfl
theorem ml_RL_81 : Cond.methodLink RL 81 yX8_minutesUntilOpenBySimulation ∈ tvGW := tvgc (tvc_5 (List.mem_of_getElem? (i := 27) (by decide +kernel))) rfl
theorem ml_RL_84 : Cond.methodLink RL 84 yX8_pearls ∈ tvGW := tvgc (tvc_5 (List.mem_of_getElem? (i := 39) (by decide +kernel))) rfl
theorem ml_RL_87 : Cond.methodLink RL 87 yX8_pearl ∈ tvGW := tvgc (tvc_5 (List.mem_of_getElem? (i := 47) (by decide +kernel))) rfl
theorem ml_RL_90 : Cond.methodLink RL 90 yX8_boxByValue ∈ tvGW := tvgc (tvc_5 (List.mem_of_getElem? (i := 56) (by decide +kernel))) rfl
theorem ml_RL_93 : Cond.methodLink RL 93 yX8_meanValue ∈ tvGW := tvgc (tvc_5 (List.mem_of_getElem? (i := 86) (by decide +kernel))) rfl
theorem ml_RL_99 : Cond.methodLink RL 99 yX8_failureRate ∈ tvGW := tvgc (tvc_5 (List.mem_of_getElem? (i := 100) (by decide +kernel))) rfl
theorem ml_RL_103 : Cond.methodLink RL 103 yX8_eventKind ∈ tvGW := tvgc (tvc_5 (List.mem_of_getElem? (i := 108) (by decide +kernel))) rfl
theorem ml_RL_106 : Cond.methodLink RL 106 yX8_eventTime ∈ tvGW := tvgc (tvc_5 (List.mem_of_getElem? (i := 123) (by decide +kernel))) rfl
theorem ml_RL_109 : Cond.methodLink RL 109 yX8_eventNumber ∈ tvGW := tvgc (tvc_5 (List.mem_of_getElem? (i := 134) (by decide +kernel))) rfl
theorem ml_RL_112 : Cond.methodLink RL 112 yX8_writeBox ∈ tvGW := tvgc (tvc_5 (List.mem_of_getElem? (i := 141) (by decide +kernel))) rfl
theorem ml_RL_115 : Cond.methodLink RL 115 yX8_charAt ∈ tvGW := tvgc (tvc_5 (List.mem_of_getElem? (i := 148) (by decide +kernel))) rfl
theorem ml_RL_118 : Cond.methodLink RL 118 yX8_type ∈ tvGW := tvgc (tvc_5 (List.mem_of_getElem? (i := 160) (by decide +kernel))) rfl
theorem ml_RL_122 : Cond.methodLink RL 122 yX8_run ∈ tvGW := tvgc (tvc_5 (List.mem_of_getElem? (i := 176) (by decide +kernel))) rfl
theorem ml_RL_126 : Cond.methodLink RL 126 yX8_errorPosition ∈ tvGW := tvgc (tvc_6 (List.mem_of_getElem? (i := 104) (by decide +kernel))) rfl
theorem ml_RL_129 : Cond.methodLink RL 129 yX8_failedCommand ∈ tvGW := tvgc (tvc_6 (List.mem_of_getElem? (i := 112) (by decide +kernel))) rfl
theorem ml_RL_132 : Cond.methodLink RL 132 yX8_wasWrongCode ∈ tvGW := tvgc (tvc_6 (List.mem_of_getElem? (i := 123) (by decide +kernel))) rfl
theorem ml_RL_136 : Cond.methodLink RL 136 yX8_undo ∈ tvGW := tvgc (tvc_6 (List.mem_of_getElem? (i := 130) (by decide +kernel))) rfl
theorem ml_RL_139 : Cond.methodLink RL 139 yX8_restore ∈ tvGW := tvgc (tvc_6 (List.mem_of_getElem? (i := 143) (by decide +kernel))) rfl
def dl_L_addBox : List (Nat × Instr × Nat) := [(0, .aload 4, 2), (2, .iconst 0, 1), (3, .aload_n 0, 1), (4, .iload_n 1, 1), (5, .iload_n 2, 1), (6, .iload_n 3, 1), (7, .invokevirtual 17, 3), (10, .i2l, 1), (11, .lastore, 1), (12, .goto 15, 3), (15, .astore 5, 2), (17, .iconst 1, 1), (18, .ireturn, 1), (19, .astore 5, 2), (21, .iconst 2, 1), (22, .ireturn, 1), (23, .astore 5, 2), (25, .iconst 3, 1), (26, .ireturn, 1), (27, .iconst 0, 1), (28, .ireturn, 1)]
theorem dlk_L_addBox : tvDl cL_addBox dl_L_addBox = true := by decide +kernel
theorem dk_L_addBox_0 : tvD cL_addBox 0 (.aload 4) 2 2 := tvDl_get dlk_L_addBox 0 rfl rfl
theorem dk_L_addBox_2 : tvD cL_addBox 2 (.iconst 0) 1 3 := tvDl_get dlk_L_addBox 1 rfl rfl
theorem dk_L_addBox_3 : tvD cL_addBox 3 (.aload_n 0) 1 4 := tvDl_get dlk_L_addBox 2 rfl rfl
theorem dk_L_addBox_4 : tvD cL_addBox 4 (.iload_n 1) 1 5 := tvDl_get dlk_L_addBox 3 rfl rfl
theorem dk_L_addBox_5 : tvD cL_addBox 5 (.iload_n 2) 1 6 := tvDl_get dlk_L_addBox 4 rfl rfl
theorem dk_L_addBox_6 : tvD cL_addBox 6 (.iload_n 3) 1 7 := tvDl_get dlk_L_addBox 5 rfl rfl
theorem dk_L_addBox_7 : tvD cL_addBox 7 (.invokevirtual 17) 3 10 := tvDl_get dlk_L_addBox 6 rfl rfl
theorem dk_L_addBox_10 : tvD cL_addBox 10 (.i2l) 1 11 := tvDl_get dlk_L_addBox 7 rfl rfl
theorem dk_L_addBox_11 : tvD cL_addBox 11 (.lastore) 1 12 := tvDl_get dlk_L_addBox 8 rfl rfl
theorem dk_L_addBox_12 : tvJ cL_addBox 12 .goto 27 15 := tvJl_get dlk_L_addBox 9 rfl (by decide) rfl
theorem dk_L_addBox_15 : tvD cL_addBox 15 (.astore 5) 2 17 := tvDl_get dlk_L_addBox 10 rfl rfl
theorem dk_L_addBox_17 : tvD cL_addBox 17 (.iconst 1) 1 18 := tvDl_get dlk_L_addBox 11 rfl rfl
theorem dk_L_addBox_18 : tvD cL_addBox 18 (.ireturn) 1 19 := tvDl_get dlk_L_addBox 12 rfl rfl
theorem dk_L_addBox_19 : tvD cL_addBox 19 (.astore 5) 2 21 := tvDl_get dlk_L_addBox 13 rfl rfl
theorem dk_L_addBox_21 : tvD cL_addBox 21 (.iconst 2) 1 22 := tvDl_get dlk_L_addBox 14 rfl rfl
theorem dk_L_addBox_22 : tvD cL_addBox 22 (.ireturn) 1 23 := tvDl_get dlk_L_addBox 15 rfl rfl
theorem dk_L_addBox_23 : tvD cL_addBox 23 (.astore 5) 2 25 := tvDl_get dlk_L_addBox 16 rfl rfl
theorem dk_L_addBox_25 : tvD cL_addBox 25 (.iconst 3) 1 26 := tvDl_get dlk_L_addBox 17 rfl rfl
theorem dk_L_addBox_26 : tvD cL_addBox 26 (.ireturn) 1 27 := tvDl_get dlk_L_addBox 18 rfl rfl
theorem dk_L_addBox_27 : tvD cL_addBox 27 (.iconst 0) 1 28 := tvDl_get dlk_L_addBox 19 rfl rfl
theorem dk_L_addBox_28 : tvD cL_addBox 28 (.ireturn) 1 29 := tvDl_get dlk_L_addBox 20 rfl rfl
def dl_L_addHolder : List (Nat × Instr × Nat) := [(0, .aload_n 2, 1), (1, .iconst 0, 1), (2, .aload_n 0, 1), (3, .iload_n 1, 1), (4, .invokevirtual 7, 3), (7, .i2l, 1), (8, .lastore, 1), (9, .goto 9, 3), (12, .astore_n 3, 1), (13, .iconst 1, 1), (14, .ireturn, 1), (15, .astore_n 3, 1), (16, .iconst 2, 1), (17, .ireturn, 1), (18, .iconst 0, 1), (19, .ireturn, 1)]
theorem dlk_L_addHolder : tvDl cL_addHolder dl_L_addHolder = true := by decide +kernel
theorem dk_L_addHolder_0 : tvD cL_addHolder 0 (.aload_n 2) 1 1 := tvDl_get dlk_L_addHolder 0 rfl rfl
theorem dk_L_addHolder_1 : tvD cL_addHolder 1 (.iconst 0) 1 2 := tvDl_get dlk_L_addHolder 1 rfl rfl
theorem dk_L_addHolder_2 : tvD cL_addHolder 2 (.aload_n 0) 1 3 := tvDl_get dlk_L_addHolder 2 rfl rfl
theorem dk_L_addHolder_3 : tvD cL_addHolder 3 (.iload_n 1) 1 4 := tvDl_get dlk_L_addHolder 3 rfl rfl
theorem dk_L_addHolder_4 : tvD cL_addHolder 4 (.invokevirtual 7) 3 7 := tvDl_get dlk_L_addHolder 4 rfl rfl
theorem dk_L_addHolder_7 : tvD cL_addHolder 7 (.i2l) 1 8 := tvDl_get dlk_L_addHolder 5 rfl rfl
theorem dk_L_addHolder_8 : tvD cL_addHolder 8 (.lastore) 1 9 := tvDl_get dlk_L_addHolder 6 rfl rfl
theorem dk_L_addHolder_9 : tvJ cL_addHolder 9 .goto 18 12 := tvJl_get dlk_L_addHolder 7 rfl (by decide) rfl
theorem dk_L_addHolder_12 : tvD cL_addHolder 12 (.astore_n 3) 1 13 := tvDl_get dlk_L_addHolder 8 rfl rfl
theorem dk_L_addHolder_13 : tvD cL_addHolder 13 (.iconst 1) 1 14 := tvDl_get dlk_L_addHolder 9 rfl rfl
theorem dk_L_addHolder_14 : tvD cL_addHolder 14 (.ireturn) 1 15 := tvDl_get dlk_L_addHolder 10 rfl rfl
theorem dk_L_addHolder_15 : tvD cL_addHolder 15 (.astore_n 3) 1 16 := tvDl_get dlk_L_addHolder 11 rfl rfl
theorem dk_L_addHolder_16 : tvD cL_addHolder 16 (.iconst 2) 1 17 := tvDl_get dlk_L_addHolder 12 rfl rfl
theorem dk_L_addHolder_17 : tvD cL_addHolder 17 (.ireturn) 1 18 := tvDl_get dlk_L_addHolder 13 rfl rfl
theorem dk_L_addHolder_18 : tvD cL_addHolder 18 (.iconst 0) 1 19 := tvDl_get dlk_L_addHolder 14 rfl rfl
theorem dk_L_addHolder_19 : tvD cL_addHolder 19 (.ireturn) 1 20 := tvDl_get dlk_L_addHolder 15 rfl rfl
def dl_L_attempts : List (Nat × Instr × Nat) := [(0, .aload_n 2, 1), (1, .iconst 0, 1), (2, .aload_n 0, 1), (3, .iload_n 1, 1), (4, .invokevirtual 56, 3), (7, .i2l, 1), (8, .lastore, 1), (9, .goto 6, 3), (12, .astore_n 3, 1), (13, .iconst 1, 1), (14, .ireturn, 1), (15, .iconst 0, 1), (16, .ireturn, 1)]
theorem dlk_L_attempts : tvDl cL_attempts dl_L_attempts = true := by decide +kernel
theorem dk_L_attempts_0 : tvD cL_attempts 0 (.aload_n 2) 1 1 := tvDl_get dlk_L_attempts 0 rfl rfl
theorem dk_L_attempts_1 : tvD cL_attempts 1 (.iconst 0) 1 2 := tvDl_get dlk_L_attempts 1 rfl rfl
theorem dk_L_attempts_2 : tvD cL_attempts 2 (.aload_n 0) 1 3 := tvDl_get dlk_L_attempts 2 rfl rfl
theorem dk_L_attempts_3 : tvD cL_attempts 3 (.iload_n 1) 1 4 := tvDl_get dlk_L_attempts 3 rfl rfl
theorem dk_L_attempts_4 : tvD cL_attempts 4 (.invokevirtual 56) 3 7 := tvDl_get dlk_L_attempts 4 rfl rfl
theorem dk_L_attempts_7 : tvD cL_attempts 7 (.i2l) 1 8 := tvDl_get dlk_L_attempts 5 rfl rfl
theorem dk_L_attempts_8 : tvD cL_attempts 8 (.lastore) 1 9 := tvDl_get dlk_L_attempts 6 rfl rfl
theorem dk_L_attempts_9 : tvJ cL_attempts 9 .goto 15 12 := tvJl_get dlk_L_attempts 7 rfl (by decide) rfl
theorem dk_L_attempts_12 : tvD cL_attempts 12 (.astore_n 3) 1 13 := tvDl_get dlk_L_attempts 8 rfl rfl
theorem dk_L_attempts_13 : tvD cL_attempts 13 (.iconst 1) 1 14 := tvDl_get dlk_L_attempts 9 rfl rfl
theorem dk_L_attempts_14 : tvD cL_attempts 14 (.ireturn) 1 15 := tvDl_get dlk_L_attempts 10 rfl rfl
theorem dk_L_attempts_15 : tvD cL_attempts 15 (.iconst 0) 1 16 := tvDl_get dlk_L_attempts 11 rfl rfl
theorem dk_L_attempts_16 : tvD cL_attempts 16 (.ireturn) 1 17 := tvDl_get dlk_L_attempts 12 rfl rfl
def dl_L_boxByValue : List (Nat × Instr × Nat) := [(0, .aload_n 2, 1), (1, .iconst 0, 1), (2, .aload_n 0, 1), (3, .iload_n 1, 1), (4, .invokevirtual 90, 3), (7, .i2l, 1), (8, .lastore, 1), (9, .goto 6, 3), (12, .astore_n 3, 1), (13, .iconst 1, 1), (14, .ireturn, 1), (15, .iconst 0, 1), (16, .ireturn, 1)]
theorem dlk_L_boxByValue : tvDl cL_boxByValue dl_L_boxByValue = true := by decide +kernel
theorem dk_L_boxByValue_0 : tvD cL_boxByValue 0 (.aload_n 2) 1 1 := tvDl_get dlk_L_boxByValue 0 rfl rfl
theorem dk_L_boxByValue_1 : tvD cL_boxByValue 1 (.iconst 0) 1 2 := tvDl_get dlk_L_boxByValue 1 rfl rfl
theorem dk_L_boxByValue_2 : tvD cL_boxByValue 2 (.aload_n 0) 1 3 := tvDl_get dlk_L_boxByValue 2 rfl rfl
theorem dk_L_boxByValue_3 : tvD cL_boxByValue 3 (.iload_n 1) 1 4 := tvDl_get dlk_L_boxByValue 3 rfl rfl
theorem dk_L_boxByValue_4 : tvD cL_boxByValue 4 (.invokevirtual 90) 3 7 := tvDl_get dlk_L_boxByValue 4 rfl rfl
theorem dk_L_boxByValue_7 : tvD cL_boxByValue 7 (.i2l) 1 8 := tvDl_get dlk_L_boxByValue 5 rfl rfl
theorem dk_L_boxByValue_8 : tvD cL_boxByValue 8 (.lastore) 1 9 := tvDl_get dlk_L_boxByValue 6 rfl rfl
theorem dk_L_boxByValue_9 : tvJ cL_boxByValue 9 .goto 15 12 := tvJl_get dlk_L_boxByValue 7 rfl (by decide) rfl
theorem dk_L_boxByValue_12 : tvD cL_boxByValue 12 (.astore_n 3) 1 13 := tvDl_get dlk_L_boxByValue 8 rfl rfl
theorem dk_L_boxByValue_13 : tvD cL_boxByValue 13 (.iconst 1) 1 14 := tvDl_get dlk_L_boxByValue 9 rfl rfl
theorem dk_L_boxByValue_14 : tvD cL_boxByValue 14 (.ireturn) 1 15 := tvDl_get dlk_L_boxByValue 10 rfl rfl
theorem dk_L_boxByValue_15 : tvD cL_boxByValue 15 (.iconst 0) 1 16 := tvDl_get dlk_L_boxByValue 11 rfl rfl
theorem dk_L_boxByValue_16 : tvD cL_boxByValue 16 (.ireturn) 1 17 := tvDl_get dlk_L_boxByValue 12 rfl rfl
def dl_L_boxesOf : List (Nat × Instr × Nat) := [(0, .aload_n 2, 1), (1, .iconst 0, 1), (2, .aload_n 0, 1), (3, .iload_n 1, 1), (4, .invokevirtual 62, 3), (7, .i2l, 1), (8, .lastore, 1), (9, .goto 6, 3), (12, .astore_n 3, 1), (13, .iconst 1, 1), (14, .ireturn, 1), (15, .iconst 0, 1), (16, .ireturn, 1)]
theorem dlk_L_boxesOf : tvDl cL_boxesOf dl_L_boxesOf = true := by decide +kernel
theorem dk_L_boxesOf_0 : tvD cL_boxesOf 0 (.aload_n 2) 1 1 := tvDl_get dlk_L_boxesOf 0 rfl rfl
theorem dk_L_boxesOf_1 : tvD cL_boxesOf 1 (.iconst 0) 1 2 := tvDl_get dlk_L_boxesOf 1 rfl rfl
theorem dk_L_boxesOf_2 : tvD cL_boxesOf 2 (.aload_n 0) 1 3 := tvDl_get dlk_L_boxesOf 2 rfl rfl
theorem dk_L_boxesOf_3 : tvD cL_boxesOf 3 (.iload_n 1) 1 4 := tvDl_get dlk_L_boxesOf 3 rfl rfl
theorem dk_L_boxesOf_4 : tvD cL_boxesOf 4 (.invokevirtual 62) 3 7 := tvDl_get dlk_L_boxesOf 4 rfl rfl
theorem dk_L_boxesOf_7 : tvD cL_boxesOf 7 (.i2l) 1 8 := tvDl_get dlk_L_boxesOf 5 rfl rfl
theorem dk_L_boxesOf_8 : tvD cL_boxesOf 8 (.lastore) 1 9 := tvDl_get dlk_L_boxesOf 6 rfl rfl
theorem dk_L_boxesOf_9 : tvJ cL_boxesOf 9 .goto 15 12 := tvJl_get dlk_L_boxesOf 7 rfl (by decide) rfl
theorem dk_L_boxesOf_12 : tvD cL_boxesOf 12 (.astore_n 3) 1 13 := tvDl_get dlk_L_boxesOf 8 rfl rfl
theorem dk_L_boxesOf_13 : tvD cL_boxesOf 13 (.iconst 1) 1 14 := tvDl_get dlk_L_boxesOf 9 rfl rfl
theorem dk_L_boxesOf_14 : tvD cL_boxesOf 14 (.ireturn) 1 15 := tvDl_get dlk_L_boxesOf 10 rfl rfl
theorem dk_L_boxesOf_15 : tvD cL_boxesOf 15 (.iconst 0) 1 16 := tvDl_get dlk_L_boxesOf 11 rfl rfl
theorem dk_L_boxesOf_16 : tvD cL_boxesOf 16 (.ireturn) 1 17 := tvDl_get dlk_L_boxesOf 12 rfl rfl
def dl_L_changeCode : List (Nat × Instr × Nat) := [(0, .aload 4, 2), (2, .iconst 0, 1), (3, .aload_n 0, 1), (4, .iload_n 1, 1), (5, .iload_n 2, 1), (6, .iload_n 3, 1), (7, .invokevirtual 33, 3), (10, .i2l, 1), (11, .lastore, 1), (12, .goto 19, 3), (15, .astore 5, 2), (17, .iconst 1, 1), (18, .ireturn, 1), (19, .astore 5, 2), (21, .iconst 2, 1), (22, .ireturn, 1), (23, .astore 5, 2), (25, .iconst 3, 1), (26, .ireturn, 1), (27, .astore 5, 2), (29, .iconst 4, 1), (30, .ireturn, 1), (31, .iconst 0, 1), (32, .ireturn, 1)]
theorem dlk_L_changeCode : tvDl cL_changeCode dl_L_changeCode = true := by decide +kernel
theorem dk_L_changeCode_0 : tvD cL_changeCode 0 (.aload 4) 2 2 := tvDl_get dlk_L_changeCode 0 rfl rfl
theorem dk_L_changeCode_2 : tvD cL_changeCode 2 (.iconst 0) 1 3 := tvDl_get dlk_L_changeCode 1 rfl rfl
theorem dk_L_changeCode_3 : tvD cL_changeCode 3 (.aload_n 0) 1 4 := tvDl_get dlk_L_changeCode 2 rfl rfl
theorem dk_L_changeCode_4 : tvD cL_changeCode 4 (.iload_n 1) 1 5 := tvDl_get dlk_L_changeCode 3 rfl rfl
theorem dk_L_changeCode_5 : tvD cL_changeCode 5 (.iload_n 2) 1 6 := tvDl_get dlk_L_changeCode 4 rfl rfl
theorem dk_L_changeCode_6 : tvD cL_changeCode 6 (.iload_n 3) 1 7 := tvDl_get dlk_L_changeCode 5 rfl rfl
theorem dk_L_changeCode_7 : tvD cL_changeCode 7 (.invokevirtual 33) 3 10 := tvDl_get dlk_L_changeCode 6 rfl rfl
theorem dk_L_changeCode_10 : tvD cL_changeCode 10 (.i2l) 1 11 := tvDl_get dlk_L_changeCode 7 rfl rfl
theorem dk_L_changeCode_11 : tvD cL_changeCode 11 (.lastore) 1 12 := tvDl_get dlk_L_changeCode 8 rfl rfl
theorem dk_L_changeCode_12 : tvJ cL_changeCode 12 .goto 31 15 := tvJl_get dlk_L_changeCode 9 rfl (by decide) rfl
theorem dk_L_changeCode_15 : tvD cL_changeCode 15 (.astore 5) 2 17 := tvDl_get dlk_L_changeCode 10 rfl rfl
theorem dk_L_changeCode_17 : tvD cL_changeCode 17 (.iconst 1) 1 18 := tvDl_get dlk_L_changeCode 11 rfl rfl
theorem dk_L_changeCode_18 : tvD cL_changeCode 18 (.ireturn) 1 19 := tvDl_get dlk_L_changeCode 12 rfl rfl
theorem dk_L_changeCode_19 : tvD cL_changeCode 19 (.astore 5) 2 21 := tvDl_get dlk_L_changeCode 13 rfl rfl
theorem dk_L_changeCode_21 : tvD cL_changeCode 21 (.iconst 2) 1 22 := tvDl_get dlk_L_changeCode 14 rfl rfl
theorem dk_L_changeCode_22 : tvD cL_changeCode 22 (.ireturn) 1 23 := tvDl_get dlk_L_changeCode 15 rfl rfl
theorem dk_L_changeCode_23 : tvD cL_changeCode 23 (.astore 5) 2 25 := tvDl_get dlk_L_changeCode 16 rfl rfl
theorem dk_L_changeCode_25 : tvD cL_changeCode 25 (.iconst 3) 1 26 := tvDl_get dlk_L_changeCode 17 rfl rfl
theorem dk_L_changeCode_26 : tvD cL_changeCode 26 (.ireturn) 1 27 := tvDl_get dlk_L_changeCode 18 rfl rfl
theorem dk_L_changeCode_27 : tvD cL_changeCode 27 (.astore 5) 2 29 := tvDl_get dlk_L_changeCode 19 rfl rfl
theorem dk_L_changeCode_29 : tvD cL_changeCode 29 (.iconst 4) 1 30 := tvDl_get dlk_L_changeCode 20 rfl rfl
theorem dk_L_changeCode_30 : tvD cL_changeCode 30 (.ireturn) 1 31 := tvDl_get dlk_L_changeCode 21 rfl rfl
theorem dk_L_changeCode_31 : tvD cL_changeCode 31 (.iconst 0) 1 32 := tvDl_get dlk_L_changeCode 22 rfl rfl
theorem dk_L_changeCode_32 : tvD cL_changeCode 32 (.ireturn) 1 33 := tvDl_get dlk_L_changeCode 23 rfl rfl
def dl_L_charAt : List (Nat × Instr × Nat) := [(0, .aload_n 2, 1), (1, .iconst 0, 1), (2, .aload_n 0, 1), (3, .iload_n 1, 1), (4, .invokevirtual 115, 3), (7, .i2l, 1), (8, .lastore, 1), (9, .goto 6, 3), (12, .astore_n 3, 1), (13, .iconst 1, 1), (14, .ireturn, 1), (15, .iconst 0, 1), (16, .ireturn, 1)]
theorem dlk_L_charAt : tvDl cL_charAt dl_L_charAt = true := by decide +kernel
theorem dk_L_charAt_0 : tvD cL_charAt 0 (.aload_n 2) 1 1 := tvDl_get dlk_L_charAt 0 rfl rfl
theorem dk_L_charAt_1 : tvD cL_charAt 1 (.iconst 0) 1 2 := tvDl_get dlk_L_charAt 1 rfl rfl
theorem dk_L_charAt_2 : tvD cL_charAt 2 (.aload_n 0) 1 3 := tvDl_get dlk_L_charAt 2 rfl rfl
theorem dk_L_charAt_3 : tvD cL_charAt 3 (.iload_n 1) 1 4 := tvDl_get dlk_L_charAt 3 rfl rfl
theorem dk_L_charAt_4 : tvD cL_charAt 4 (.invokevirtual 115) 3 7 := tvDl_get dlk_L_charAt 4 rfl rfl
theorem dk_L_charAt_7 : tvD cL_charAt 7 (.i2l) 1 8 := tvDl_get dlk_L_charAt 5 rfl rfl
theorem dk_L_charAt_8 : tvD cL_charAt 8 (.lastore) 1 9 := tvDl_get dlk_L_charAt 6 rfl rfl
theorem dk_L_charAt_9 : tvJ cL_charAt 9 .goto 15 12 := tvJl_get dlk_L_charAt 7 rfl (by decide) rfl
theorem dk_L_charAt_12 : tvD cL_charAt 12 (.astore_n 3) 1 13 := tvDl_get dlk_L_charAt 8 rfl rfl
theorem dk_L_charAt_13 : tvD cL_charAt 13 (.iconst 1) 1 14 := tvDl_get dlk_L_charAt 9 rfl rfl
theorem dk_L_charAt_14 : tvD cL_charAt 14 (.ireturn) 1 15 := tvDl_get dlk_L_charAt 10 rfl rfl
theorem dk_L_charAt_15 : tvD cL_charAt 15 (.iconst 0) 1 16 := tvDl_get dlk_L_charAt 11 rfl rfl
theorem dk_L_charAt_16 : tvD cL_charAt 16 (.ireturn) 1 17 := tvDl_get dlk_L_charAt 12 rfl rfl
def dl_L_close : List (Nat × Instr × Nat) := [(0, .aload_n 2, 1), (1, .iconst 0, 1), (2, .aload_n 0, 1), (3, .iload_n 1, 1), (4, .invokevirtual 44, 3), (7, .i2l, 1), (8, .lastore, 1), (9, .goto 9, 3), (12, .astore_n 3, 1), (13, .iconst 1, 1), (14, .ireturn, 1), (15, .astore_n 3, 1), (16, .iconst 2, 1), (17, .ireturn, 1), (18, .iconst 0, 1), (19, .ireturn, 1)]
theorem dlk_L_close : tvDl cL_close dl_L_close = true := by decide +kernel
theorem dk_L_close_0 : tvD cL_close 0 (.aload_n 2) 1 1 := tvDl_get dlk_L_close 0 rfl rfl
theorem dk_L_close_1 : tvD cL_close 1 (.iconst 0) 1 2 := tvDl_get dlk_L_close 1 rfl rfl
theorem dk_L_close_2 : tvD cL_close 2 (.aload_n 0) 1 3 := tvDl_get dlk_L_close 2 rfl rfl
theorem dk_L_close_3 : tvD cL_close 3 (.iload_n 1) 1 4 := tvDl_get dlk_L_close 3 rfl rfl
theorem dk_L_close_4 : tvD cL_close 4 (.invokevirtual 44) 3 7 := tvDl_get dlk_L_close 4 rfl rfl
theorem dk_L_close_7 : tvD cL_close 7 (.i2l) 1 8 := tvDl_get dlk_L_close 5 rfl rfl
theorem dk_L_close_8 : tvD cL_close 8 (.lastore) 1 9 := tvDl_get dlk_L_close 6 rfl rfl
theorem dk_L_close_9 : tvJ cL_close 9 .goto 18 12 := tvJl_get dlk_L_close 7 rfl (by decide) rfl
theorem dk_L_close_12 : tvD cL_close 12 (.astore_n 3) 1 13 := tvDl_get dlk_L_close 8 rfl rfl
theorem dk_L_close_13 : tvD cL_close 13 (.iconst 1) 1 14 := tvDl_get dlk_L_close 9 rfl rfl
theorem dk_L_close_14 : tvD cL_close 14 (.ireturn) 1 15 := tvDl_get dlk_L_close 10 rfl rfl
theorem dk_L_close_15 : tvD cL_close 15 (.astore_n 3) 1 16 := tvDl_get dlk_L_close 11 rfl rfl
theorem dk_L_close_16 : tvD cL_close 16 (.iconst 2) 1 17 := tvDl_get dlk_L_close 12 rfl rfl
theorem dk_L_close_17 : tvD cL_close 17 (.ireturn) 1 18 := tvDl_get dlk_L_close 13 rfl rfl
theorem dk_L_close_18 : tvD cL_close 18 (.iconst 0) 1 19 := tvDl_get dlk_L_close 14 rfl rfl
theorem dk_L_close_19 : tvD cL_close 19 (.ireturn) 1 20 := tvDl_get dlk_L_close 15 rfl rfl
def dl_L_deposit : List (Nat × Instr × Nat) := [(0, .aload_n 3, 1), (1, .iconst 0, 1), (2, .aload_n 0, 1), (3, .iload_n 1, 1), (4, .iload_n 2, 1), (5, .invokevirtual 36, 3), (8, .i2l, 1), (9, .lastore, 1), (10, .goto 15, 3), (13, .astore 4, 2), (15, .iconst 1, 1), (16, .ireturn, 1), (17, .astore 4, 2), (19, .iconst 2, 1), (20, .ireturn, 1), (21, .astore 4, 2), (23, .iconst 3, 1), (24, .ireturn, 1), (25, .iconst 0, 1), (26, .ireturn, 1)]
theorem dlk_L_deposit : tvDl cL_deposit dl_L_deposit = true := by decide +kernel
theorem dk_L_deposit_0 : tvD cL_deposit 0 (.aload_n 3) 1 1 := tvDl_get dlk_L_deposit 0 rfl rfl
theorem dk_L_deposit_1 : tvD cL_deposit 1 (.iconst 0) 1 2 := tvDl_get dlk_L_deposit 1 rfl rfl
theorem dk_L_deposit_2 : tvD cL_deposit 2 (.aload_n 0) 1 3 := tvDl_get dlk_L_deposit 2 rfl rfl
theorem dk_L_deposit_3 : tvD cL_deposit 3 (.iload_n 1) 1 4 := tvDl_get dlk_L_deposit 3 rfl rfl
theorem dk_L_deposit_4 : tvD cL_deposit 4 (.iload_n 2) 1 5 := tvDl_get dlk_L_deposit 4 rfl rfl
theorem dk_L_deposit_5 : tvD cL_deposit 5 (.invokevirtual 36) 3 8 := tvDl_get dlk_L_deposit 5 rfl rfl
theorem dk_L_deposit_8 : tvD cL_deposit 8 (.i2l) 1 9 := tvDl_get dlk_L_deposit 6 rfl rfl
theorem dk_L_deposit_9 : tvD cL_deposit 9 (.lastore) 1 10 := tvDl_get dlk_L_deposit 7 rfl rfl
theorem dk_L_deposit_10 : tvJ cL_deposit 10 .goto 25 13 := tvJl_get dlk_L_deposit 8 rfl (by decide) rfl
theorem dk_L_deposit_13 : tvD cL_deposit 13 (.astore 4) 2 15 := tvDl_get dlk_L_deposit 9 rfl rfl
theorem dk_L_deposit_15 : tvD cL_deposit 15 (.iconst 1) 1 16 := tvDl_get dlk_L_deposit 10 rfl rfl
theorem dk_L_deposit_16 : tvD cL_deposit 16 (.ireturn) 1 17 := tvDl_get dlk_L_deposit 11 rfl rfl
theorem dk_L_deposit_17 : tvD cL_deposit 17 (.astore 4) 2 19 := tvDl_get dlk_L_deposit 12 rfl rfl
theorem dk_L_deposit_19 : tvD cL_deposit 19 (.iconst 2) 1 20 := tvDl_get dlk_L_deposit 13 rfl rfl
theorem dk_L_deposit_20 : tvD cL_deposit 20 (.ireturn) 1 21 := tvDl_get dlk_L_deposit 14 rfl rfl
theorem dk_L_deposit_21 : tvD cL_deposit 21 (.astore 4) 2 23 := tvDl_get dlk_L_deposit 15 rfl rfl
theorem dk_L_deposit_23 : tvD cL_deposit 23 (.iconst 3) 1 24 := tvDl_get dlk_L_deposit 16 rfl rfl
theorem dk_L_deposit_24 : tvD cL_deposit 24 (.ireturn) 1 25 := tvDl_get dlk_L_deposit 17 rfl rfl
theorem dk_L_deposit_25 : tvD cL_deposit 25 (.iconst 0) 1 26 := tvDl_get dlk_L_deposit 18 rfl rfl
theorem dk_L_deposit_26 : tvD cL_deposit 26 (.ireturn) 1 27 := tvDl_get dlk_L_deposit 19 rfl rfl
def dl_L_errorPosition : List (Nat × Instr × Nat) := [(0, .aload_n 1, 1), (1, .iconst 0, 1), (2, .aload_n 0, 1), (3, .invokevirtual 126, 3), (6, .i2l, 1), (7, .lastore, 1), (8, .goto 6, 3), (11, .astore_n 2, 1), (12, .iconst 1, 1), (13, .ireturn, 1), (14, .iconst 0, 1), (15, .ireturn, 1)]
theorem dlk_L_errorPosition : tvDl cL_errorPosition dl_L_errorPosition = true := by decide +kernel
theorem dk_L_errorPosition_0 : tvD cL_errorPosition 0 (.aload_n 1) 1 1 := tvDl_get dlk_L_errorPosition 0 rfl rfl
theorem dk_L_errorPosition_1 : tvD cL_errorPosition 1 (.iconst 0) 1 2 := tvDl_get dlk_L_errorPosition 1 rfl rfl
theorem dk_L_errorPosition_2 : tvD cL_errorPosition 2 (.aload_n 0) 1 3 := tvDl_get dlk_L_errorPosition 2 rfl rfl
theorem dk_L_errorPosition_3 : tvD cL_errorPosition 3 (.invokevirtual 126) 3 6 := tvDl_get dlk_L_errorPosition 3 rfl rfl
theorem dk_L_errorPosition_6 : tvD cL_errorPosition 6 (.i2l) 1 7 := tvDl_get dlk_L_errorPosition 4 rfl rfl
theorem dk_L_errorPosition_7 : tvD cL_errorPosition 7 (.lastore) 1 8 := tvDl_get dlk_L_errorPosition 5 rfl rfl
theorem dk_L_errorPosition_8 : tvJ cL_errorPosition 8 .goto 14 11 := tvJl_get dlk_L_errorPosition 6 rfl (by decide) rfl
theorem dk_L_errorPosition_11 : tvD cL_errorPosition 11 (.astore_n 2) 1 12 := tvDl_get dlk_L_errorPosition 7 rfl rfl
theorem dk_L_errorPosition_12 : tvD cL_errorPosition 12 (.iconst 1) 1 13 := tvDl_get dlk_L_errorPosition 8 rfl rfl
theorem dk_L_errorPosition_13 : tvD cL_errorPosition 13 (.ireturn) 1 14 := tvDl_get dlk_L_errorPosition 9 rfl rfl
theorem dk_L_errorPosition_14 : tvD cL_errorPosition 14 (.iconst 0) 1 15 := tvDl_get dlk_L_errorPosition 10 rfl rfl
theorem dk_L_errorPosition_15 : tvD cL_errorPosition 15 (.ireturn) 1 16 := tvDl_get dlk_L_errorPosition 11 rfl rfl
def dl_L_eventKind : List (Nat × Instr × Nat) := [(0, .aload_n 2, 1), (1, .iconst 0, 1), (2, .aload_n 0, 1), (3, .iload_n 1, 1), (4, .invokevirtual 103, 3), (7, .i2l, 1), (8, .lastore, 1), (9, .goto 6, 3), (12, .astore_n 3, 1), (13, .iconst 1, 1), (14, .ireturn, 1), (15, .iconst 0, 1), (16, .ireturn, 1)]
theorem dlk_L_eventKind : tvDl cL_eventKind dl_L_eventKind = true := by decide +kernel
theorem dk_L_eventKind_0 : tvD cL_eventKind 0 (.aload_n 2) 1 1 := tvDl_get dlk_L_eventKind 0 rfl rfl
theorem dk_L_eventKind_1 : tvD cL_eventKind 1 (.iconst 0) 1 2 := tvDl_get dlk_L_eventKind 1 rfl rfl
theorem dk_L_eventKind_2 : tvD cL_eventKind 2 (.aload_n 0) 1 3 := tvDl_get dlk_L_eventKind 2 rfl rfl
theorem dk_L_eventKind_3 : tvD cL_eventKind 3 (.iload_n 1) 1 4 := tvDl_get dlk_L_eventKind 3 rfl rfl
theorem dk_L_eventKind_4 : tvD cL_eventKind 4 (.invokevirtual 103) 3 7 := tvDl_get dlk_L_eventKind 4 rfl rfl
theorem dk_L_eventKind_7 : tvD cL_eventKind 7 (.i2l) 1 8 := tvDl_get dlk_L_eventKind 5 rfl rfl
theorem dk_L_eventKind_8 : tvD cL_eventKind 8 (.lastore) 1 9 := tvDl_get dlk_L_eventKind 6 rfl rfl
theorem dk_L_eventKind_9 : tvJ cL_eventKind 9 .goto 15 12 := tvJl_get dlk_L_eventKind 7 rfl (by decide) rfl
theorem dk_L_eventKind_12 : tvD cL_eventKind 12 (.astore_n 3) 1 13 := tvDl_get dlk_L_eventKind 8 rfl rfl
theorem dk_L_eventKind_13 : tvD cL_eventKind 13 (.iconst 1) 1 14 := tvDl_get dlk_L_eventKind 9 rfl rfl
theorem dk_L_eventKind_14 : tvD cL_eventKind 14 (.ireturn) 1 15 := tvDl_get dlk_L_eventKind 10 rfl rfl
theorem dk_L_eventKind_15 : tvD cL_eventKind 15 (.iconst 0) 1 16 := tvDl_get dlk_L_eventKind 11 rfl rfl
theorem dk_L_eventKind_16 : tvD cL_eventKind 16 (.ireturn) 1 17 := tvDl_get dlk_L_eventKind 12 rfl rfl
def dl_L_eventNumber : List (Nat × Instr × Nat) := [(0, .aload_n 2, 1), (1, .iconst 0, 1), (2, .aload_n 0, 1), (3, .iload_n 1, 1), (4, .invokevirtual 109, 3), (7, .i2l, 1), (8, .lastore, 1), (9, .goto 6, 3), (12, .astore_n 3, 1), (13, .iconst 1, 1), (14, .ireturn, 1), (15, .iconst 0, 1), (16, .ireturn, 1)]
theorem dlk_L_eventNumber : tvDl cL_eventNumber dl_L_eventNumber = true := by decide +kernel
theorem dk_L_eventNumber_0 : tvD cL_eventNumber 0 (.aload_n 2) 1 1 := tvDl_get dlk_L_eventNumber 0 rfl rfl
theorem dk_L_eventNumber_1 : tvD cL_eventNumber 1 (.iconst 0) 1 2 := tvDl_get dlk_L_eventNumber 1 rfl rfl
theorem dk_L_eventNumber_2 : tvD cL_eventNumber 2 (.aload_n 0) 1 3 := tvDl_get dlk_L_eventNumber 2 rfl rfl
theorem dk_L_eventNumber_3 : tvD cL_eventNumber 3 (.iload_n 1) 1 4 := tvDl_get dlk_L_eventNumber 3 rfl rfl
theorem dk_L_eventNumber_4 : tvD cL_eventNumber 4 (.invokevirtual 109) 3 7 := tvDl_get dlk_L_eventNumber 4 rfl rfl
theorem dk_L_eventNumber_7 : tvD cL_eventNumber 7 (.i2l) 1 8 := tvDl_get dlk_L_eventNumber 5 rfl rfl
theorem dk_L_eventNumber_8 : tvD cL_eventNumber 8 (.lastore) 1 9 := tvDl_get dlk_L_eventNumber 6 rfl rfl
theorem dk_L_eventNumber_9 : tvJ cL_eventNumber 9 .goto 15 12 := tvJl_get dlk_L_eventNumber 7 rfl (by decide) rfl
theorem dk_L_eventNumber_12 : tvD cL_eventNumber 12 (.astore_n 3) 1 13 := tvDl_get dlk_L_eventNumber 8 rfl rfl
theorem dk_L_eventNumber_13 : tvD cL_eventNumber 13 (.iconst 1) 1 14 := tvDl_get dlk_L_eventNumber 9 rfl rfl
theorem dk_L_eventNumber_14 : tvD cL_eventNumber 14 (.ireturn) 1 15 := tvDl_get dlk_L_eventNumber 10 rfl rfl
theorem dk_L_eventNumber_15 : tvD cL_eventNumber 15 (.iconst 0) 1 16 := tvDl_get dlk_L_eventNumber 11 rfl rfl
theorem dk_L_eventNumber_16 : tvD cL_eventNumber 16 (.ireturn) 1 17 := tvDl_get dlk_L_eventNumber 12 rfl rfl
def dl_L_eventTime : List (Nat × Instr × Nat) := [(0, .aload_n 2, 1), (1, .iconst 0, 1), (2, .aload_n 0, 1), (3, .iload_n 1, 1), (4, .invokevirtual 106, 3), (7, .i2l, 1), (8, .lastore, 1), (9, .goto 6, 3), (12, .astore_n 3, 1), (13, .iconst 1, 1), (14, .ireturn, 1), (15, .iconst 0, 1), (16, .ireturn, 1)]
theorem dlk_L_eventTime : tvDl cL_eventTime dl_L_eventTime = true := by decide +kernel
theorem dk_L_eventTime_0 : tvD cL_eventTime 0 (.aload_n 2) 1 1 := tvDl_get dlk_L_eventTime 0 rfl rfl
theorem dk_L_eventTime_1 : tvD cL_eventTime 1 (.iconst 0) 1 2 := tvDl_get dlk_L_eventTime 1 rfl rfl
theorem dk_L_eventTime_2 : tvD cL_eventTime 2 (.aload_n 0) 1 3 := tvDl_get dlk_L_eventTime 2 rfl rfl
theorem dk_L_eventTime_3 : tvD cL_eventTime 3 (.iload_n 1) 1 4 := tvDl_get dlk_L_eventTime 3 rfl rfl
theorem dk_L_eventTime_4 : tvD cL_eventTime 4 (.invokevirtual 106) 3 7 := tvDl_get dlk_L_eventTime 4 rfl rfl
theorem dk_L_eventTime_7 : tvD cL_eventTime 7 (.i2l) 1 8 := tvDl_get dlk_L_eventTime 5 rfl rfl
theorem dk_L_eventTime_8 : tvD cL_eventTime 8 (.lastore) 1 9 := tvDl_get dlk_L_eventTime 6 rfl rfl
theorem dk_L_eventTime_9 : tvJ cL_eventTime 9 .goto 15 12 := tvJl_get dlk_L_eventTime 7 rfl (by decide) rfl
theorem dk_L_eventTime_12 : tvD cL_eventTime 12 (.astore_n 3) 1 13 := tvDl_get dlk_L_eventTime 8 rfl rfl
theorem dk_L_eventTime_13 : tvD cL_eventTime 13 (.iconst 1) 1 14 := tvDl_get dlk_L_eventTime 9 rfl rfl
theorem dk_L_eventTime_14 : tvD cL_eventTime 14 (.ireturn) 1 15 := tvDl_get dlk_L_eventTime 10 rfl rfl
theorem dk_L_eventTime_15 : tvD cL_eventTime 15 (.iconst 0) 1 16 := tvDl_get dlk_L_eventTime 11 rfl rfl
theorem dk_L_eventTime_16 : tvD cL_eventTime 16 (.ireturn) 1 17 := tvDl_get dlk_L_eventTime 12 rfl rfl
def dl_L_failedCommand : List (Nat × Instr × Nat) := [(0, .aload_n 1, 1), (1, .iconst 0, 1), (2, .aload_n 0, 1), (3, .invokevirtual 129, 3), (6, .i2l, 1), (7, .lastore, 1), (8, .goto 6, 3), (11, .astore_n 2, 1), (12, .iconst 1, 1), (13, .ireturn, 1), (14, .iconst 0, 1), (15, .ireturn, 1)]
theorem dlk_L_failedCommand : tvDl cL_failedCommand dl_L_failedCommand = true := by decide +kernel
theorem dk_L_failedCommand_0 : tvD cL_failedCommand 0 (.aload_n 1) 1 1 := tvDl_get dlk_L_failedCommand 0 rfl rfl
theorem dk_L_failedCommand_1 : tvD cL_failedCommand 1 (.iconst 0) 1 2 := tvDl_get dlk_L_failedCommand 1 rfl rfl
theorem dk_L_failedCommand_2 : tvD cL_failedCommand 2 (.aload_n 0) 1 3 := tvDl_get dlk_L_failedCommand 2 rfl rfl
theorem dk_L_failedCommand_3 : tvD cL_failedCommand 3 (.invokevirtual 129) 3 6 := tvDl_get dlk_L_failedCommand 3 rfl rfl
theorem dk_L_failedCommand_6 : tvD cL_failedCommand 6 (.i2l) 1 7 := tvDl_get dlk_L_failedCommand 4 rfl rfl
theorem dk_L_failedCommand_7 : tvD cL_failedCommand 7 (.lastore) 1 8 := tvDl_get dlk_L_failedCommand 5 rfl rfl
theorem dk_L_failedCommand_8 : tvJ cL_failedCommand 8 .goto 14 11 := tvJl_get dlk_L_failedCommand 6 rfl (by decide) rfl
theorem dk_L_failedCommand_11 : tvD cL_failedCommand 11 (.astore_n 2) 1 12 := tvDl_get dlk_L_failedCommand 7 rfl rfl
theorem dk_L_failedCommand_12 : tvD cL_failedCommand 12 (.iconst 1) 1 13 := tvDl_get dlk_L_failedCommand 8 rfl rfl
theorem dk_L_failedCommand_13 : tvD cL_failedCommand 13 (.ireturn) 1 14 := tvDl_get dlk_L_failedCommand 9 rfl rfl
theorem dk_L_failedCommand_14 : tvD cL_failedCommand 14 (.iconst 0) 1 15 := tvDl_get dlk_L_failedCommand 10 rfl rfl
theorem dk_L_failedCommand_15 : tvD cL_failedCommand 15 (.ireturn) 1 16 := tvDl_get dlk_L_failedCommand 11 rfl rfl
def dl_L_failureRate : List (Nat × Instr × Nat) := [(0, .aload_n 1, 1), (1, .iconst 0, 1), (2, .aload_n 0, 1), (3, .invokevirtual 99, 3), (6, .f2d, 1), (7, .dastore, 1), (8, .goto 6, 3), (11, .astore_n 2, 1), (12, .iconst 1, 1), (13, .ireturn, 1), (14, .iconst 0, 1), (15, .ireturn, 1)]
theorem dlk_L_failureRate : tvDl cL_failureRate dl_L_failureRate = true := by decide +kernel
theorem dk_L_failureRate_0 : tvD cL_failureRate 0 (.aload_n 1) 1 1 := tvDl_get dlk_L_failureRate 0 rfl rfl
theorem dk_L_failureRate_1 : tvD cL_failureRate 1 (.iconst 0) 1 2 := tvDl_get dlk_L_failureRate 1 rfl rfl
theorem dk_L_failureRate_2 : tvD cL_failureRate 2 (.aload_n 0) 1 3 := tvDl_get dlk_L_failureRate 2 rfl rfl
theorem dk_L_failureRate_3 : tvD cL_failureRate 3 (.invokevirtual 99) 3 6 := tvDl_get dlk_L_failureRate 3 rfl rfl
theorem dk_L_failureRate_6 : tvD cL_failureRate 6 (.f2d) 1 7 := tvDl_get dlk_L_failureRate 4 rfl rfl
theorem dk_L_failureRate_7 : tvD cL_failureRate 7 (.dastore) 1 8 := tvDl_get dlk_L_failureRate 5 rfl rfl
theorem dk_L_failureRate_8 : tvJ cL_failureRate 8 .goto 14 11 := tvJl_get dlk_L_failureRate 6 rfl (by decide) rfl
theorem dk_L_failureRate_11 : tvD cL_failureRate 11 (.astore_n 2) 1 12 := tvDl_get dlk_L_failureRate 7 rfl rfl
theorem dk_L_failureRate_12 : tvD cL_failureRate 12 (.iconst 1) 1 13 := tvDl_get dlk_L_failureRate 8 rfl rfl
theorem dk_L_failureRate_13 : tvD cL_failureRate 13 (.ireturn) 1 14 := tvDl_get dlk_L_failureRate 9 rfl rfl
theorem dk_L_failureRate_14 : tvD cL_failureRate 14 (.iconst 0) 1 15 := tvDl_get dlk_L_failureRate 10 rfl rfl
theorem dk_L_failureRate_15 : tvD cL_failureRate 15 (.ireturn) 1 16 := tvDl_get dlk_L_failureRate 11 rfl rfl
def dl_L_firstHolder : List (Nat × Instr × Nat) := [(0, .aload_n 2, 1), (1, .iconst 0, 1), (2, .aload_n 0, 1), (3, .iload_n 1, 1), (4, .invokevirtual 72, 3), (7, .i2l, 1), (8, .lastore, 1), (9, .goto 9, 3), (12, .astore_n 3, 1), (13, .iconst 1, 1), (14, .ireturn, 1), (15, .astore_n 3, 1), (16, .iconst 2, 1), (17, .ireturn, 1), (18, .iconst 0, 1), (19, .ireturn, 1)]
theorem dlk_L_firstHolder : tvDl cL_firstHolder dl_L_firstHolder = true := by decide +kernel
theorem dk_L_firstHolder_0 : tvD cL_firstHolder 0 (.aload_n 2) 1 1 := tvDl_get dlk_L_firstHolder 0 rfl rfl
theorem dk_L_firstHolder_1 : tvD cL_firstHolder 1 (.iconst 0) 1 2 := tvDl_get dlk_L_firstHolder 1 rfl rfl
theorem dk_L_firstHolder_2 : tvD cL_firstHolder 2 (.aload_n 0) 1 3 := tvDl_get dlk_L_firstHolder 2 rfl rfl
theorem dk_L_firstHolder_3 : tvD cL_firstHolder 3 (.iload_n 1) 1 4 := tvDl_get dlk_L_firstHolder 3 rfl rfl
theorem dk_L_firstHolder_4 : tvD cL_firstHolder 4 (.invokevirtual 72) 3 7 := tvDl_get dlk_L_firstHolder 4 rfl rfl
theorem dk_L_firstHolder_7 : tvD cL_firstHolder 7 (.i2l) 1 8 := tvDl_get dlk_L_firstHolder 5 rfl rfl
theorem dk_L_firstHolder_8 : tvD cL_firstHolder 8 (.lastore) 1 9 := tvDl_get dlk_L_firstHolder 6 rfl rfl
theorem dk_L_firstHolder_9 : tvJ cL_firstHolder 9 .goto 18 12 := tvJl_get dlk_L_firstHolder 7 rfl (by decide) rfl
theorem dk_L_firstHolder_12 : tvD cL_firstHolder 12 (.astore_n 3) 1 13 := tvDl_get dlk_L_firstHolder 8 rfl rfl
theorem dk_L_firstHolder_13 : tvD cL_firstHolder 13 (.iconst 1) 1 14 := tvDl_get dlk_L_firstHolder 9 rfl rfl
theorem dk_L_firstHolder_14 : tvD cL_firstHolder 14 (.ireturn) 1 15 := tvDl_get dlk_L_firstHolder 10 rfl rfl
theorem dk_L_firstHolder_15 : tvD cL_firstHolder 15 (.astore_n 3) 1 16 := tvDl_get dlk_L_firstHolder 11 rfl rfl
theorem dk_L_firstHolder_16 : tvD cL_firstHolder 16 (.iconst 2) 1 17 := tvDl_get dlk_L_firstHolder 12 rfl rfl
theorem dk_L_firstHolder_17 : tvD cL_firstHolder 17 (.ireturn) 1 18 := tvDl_get dlk_L_firstHolder 13 rfl rfl
theorem dk_L_firstHolder_18 : tvD cL_firstHolder 18 (.iconst 0) 1 19 := tvDl_get dlk_L_firstHolder 14 rfl rfl
theorem dk_L_firstHolder_19 : tvD cL_firstHolder 19 (.ireturn) 1 20 := tvDl_get dlk_L_firstHolder 15 rfl rfl
def dl_L_lowMinutes : List (Nat × Instr × Nat) := [(0, .aload_n 2, 1), (1, .iconst 0, 1), (2, .aload_n 0, 1), (3, .iload_n 1, 1), (4, .invokevirtual 50, 3), (7, .i2l, 1), (8, .lastore, 1), (9, .goto 6, 3), (12, .astore_n 3, 1), (13, .iconst 1, 1), (14, .ireturn, 1), (15, .iconst 0, 1), (16, .ireturn, 1)]
theorem dlk_L_lowMinutes : tvDl cL_lowMinutes dl_L_lowMinutes = true := by decide +kernel
theorem dk_L_lowMinutes_0 : tvD cL_lowMinutes 0 (.aload_n 2) 1 1 := tvDl_get dlk_L_lowMinutes 0 rfl rfl
theorem dk_L_lowMinutes_1 : tvD cL_lowMinutes 1 (.iconst 0) 1 2 := tvDl_get dlk_L_lowMinutes 1 rfl rfl
theorem dk_L_lowMinutes_2 : tvD cL_lowMinutes 2 (.aload_n 0) 1 3 := tvDl_get dlk_L_lowMinutes 2 rfl rfl
theorem dk_L_lowMinutes_3 : tvD cL_lowMinutes 3 (.iload_n 1) 1 4 := tvDl_get dlk_L_lowMinutes 3 rfl rfl
theorem dk_L_lowMinutes_4 : tvD cL_lowMinutes 4 (.invokevirtual 50) 3 7 := tvDl_get dlk_L_lowMinutes 4 rfl rfl
theorem dk_L_lowMinutes_7 : tvD cL_lowMinutes 7 (.i2l) 1 8 := tvDl_get dlk_L_lowMinutes 5 rfl rfl
theorem dk_L_lowMinutes_8 : tvD cL_lowMinutes 8 (.lastore) 1 9 := tvDl_get dlk_L_lowMinutes 6 rfl rfl
theorem dk_L_lowMinutes_9 : tvJ cL_lowMinutes 9 .goto 15 12 := tvJl_get dlk_L_lowMinutes 7 rfl (by decide) rfl
theorem dk_L_lowMinutes_12 : tvD cL_lowMinutes 12 (.astore_n 3) 1 13 := tvDl_get dlk_L_lowMinutes 8 rfl rfl
theorem dk_L_lowMinutes_13 : tvD cL_lowMinutes 13 (.iconst 1) 1 14 := tvDl_get dlk_L_lowMinutes 9 rfl rfl
theorem dk_L_lowMinutes_14 : tvD cL_lowMinutes 14 (.ireturn) 1 15 := tvDl_get dlk_L_lowMinutes 10 rfl rfl
theorem dk_L_lowMinutes_15 : tvD cL_lowMinutes 15 (.iconst 0) 1 16 := tvDl_get dlk_L_lowMinutes 11 rfl rfl
theorem dk_L_lowMinutes_16 : tvD cL_lowMinutes 16 (.ireturn) 1 17 := tvDl_get dlk_L_lowMinutes 12 rfl rfl
def dl_L_lowMinutesByCounting : List (Nat × Instr × Nat) := [(0, .aload_n 2, 1), (1, .iconst 0, 1), (2, .aload_n 0, 1), (3, .iload_n 1, 1), (4, .invokevirtual 53, 3), (7, .i2l, 1), (8, .lastore, 1), (9, .goto 6, 3), (12, .astore_n 3, 1), (13, .iconst 1, 1), (14, .ireturn, 1), (15, .iconst 0, 1), (16, .ireturn, 1)]
theorem dlk_L_lowMinutesByCounting : tvDl cL_lowMinutesByCounting dl_L_lowMinutesByCounting = true := by decide +kernel
theorem dk_L_lowMinutesByCounting_0 : tvD cL_lowMinutesByCounting 0 (.aload_n 2) 1 1 := tvDl_get dlk_L_lowMinutesByCounting 0 rfl rfl
theorem dk_L_lowMinutesByCounting_1 : tvD cL_lowMinutesByCounting 1 (.iconst 0) 1 2 := tvDl_get dlk_L_lowMinutesByCounting 1 rfl rfl
theorem dk_L_lowMinutesByCounting_2 : tvD cL_lowMinutesByCounting 2 (.aload_n 0) 1 3 := tvDl_get dlk_L_lowMinutesByCounting 2 rfl rfl
theorem dk_L_lowMinutesByCounting_3 : tvD cL_lowMinutesByCounting 3 (.iload_n 1) 1 4 := tvDl_get dlk_L_lowMinutesByCounting 3 rfl rfl
theorem dk_L_lowMinutesByCounting_4 : tvD cL_lowMinutesByCounting 4 (.invokevirtual 53) 3 7 := tvDl_get dlk_L_lowMinutesByCounting 4 rfl rfl
theorem dk_L_lowMinutesByCounting_7 : tvD cL_lowMinutesByCounting 7 (.i2l) 1 8 := tvDl_get dlk_L_lowMinutesByCounting 5 rfl rfl
theorem dk_L_lowMinutesByCounting_8 : tvD cL_lowMinutesByCounting 8 (.lastore) 1 9 := tvDl_get dlk_L_lowMinutesByCounting 6 rfl rfl
theorem dk_L_lowMinutesByCounting_9 : tvJ cL_lowMinutesByCounting 9 .goto 15 12 := tvJl_get dlk_L_lowMinutesByCounting 7 rfl (by decide) rfl
theorem dk_L_lowMinutesByCounting_12 : tvD cL_lowMinutesByCounting 12 (.astore_n 3) 1 13 := tvDl_get dlk_L_lowMinutesByCounting 8 rfl rfl
theorem dk_L_lowMinutesByCounting_13 : tvD cL_lowMinutesByCounting 13 (.iconst 1) 1 14 := tvDl_get dlk_L_lowMinutesByCounting 9 rfl rfl
theorem dk_L_lowMinutesByCounting_14 : tvD cL_lowMinutesByCounting 14 (.ireturn) 1 15 := tvDl_get dlk_L_lowMinutesByCounting 10 rfl rfl
theorem dk_L_lowMinutesByCounting_15 : tvD cL_lowMinutesByCounting 15 (.iconst 0) 1 16 := tvDl_get dlk_L_lowMinutesByCounting 11 rfl rfl
theorem dk_L_lowMinutesByCounting_16 : tvD cL_lowMinutesByCounting 16 (.ireturn) 1 17 := tvDl_get dlk_L_lowMinutesByCounting 12 rfl rfl
def dl_L_meanValue : List (Nat × Instr × Nat) := [(0, .aload_n 1, 1), (1, .iconst 0, 1), (2, .aload_n 0, 1), (3, .invokevirtual 93, 3), (6, .dastore, 1), (7, .goto 6, 3), (10, .astore_n 2, 1), (11, .iconst 1, 1), (12, .ireturn, 1), (13, .iconst 0, 1), (14, .ireturn, 1)]
theorem dlk_L_meanValue : tvDl cL_meanValue dl_L_meanValue = true := by decide +kernel
theorem dk_L_meanValue_0 : tvD cL_meanValue 0 (.aload_n 1) 1 1 := tvDl_get dlk_L_meanValue 0 rfl rfl
theorem dk_L_meanValue_1 : tvD cL_meanValue 1 (.iconst 0) 1 2 := tvDl_get dlk_L_meanValue 1 rfl rfl
theorem dk_L_meanValue_2 : tvD cL_meanValue 2 (.aload_n 0) 1 3 := tvDl_get dlk_L_meanValue 2 rfl rfl
theorem dk_L_meanValue_3 : tvD cL_meanValue 3 (.invokevirtual 93) 3 6 := tvDl_get dlk_L_meanValue 3 rfl rfl
theorem dk_L_meanValue_6 : tvD cL_meanValue 6 (.dastore) 1 7 := tvDl_get dlk_L_meanValue 4 rfl rfl
theorem dk_L_meanValue_7 : tvJ cL_meanValue 7 .goto 13 10 := tvJl_get dlk_L_meanValue 5 rfl (by decide) rfl
theorem dk_L_meanValue_10 : tvD cL_meanValue 10 (.astore_n 2) 1 11 := tvDl_get dlk_L_meanValue 6 rfl rfl
theorem dk_L_meanValue_11 : tvD cL_meanValue 11 (.iconst 1) 1 12 := tvDl_get dlk_L_meanValue 7 rfl rfl
theorem dk_L_meanValue_12 : tvD cL_meanValue 12 (.ireturn) 1 13 := tvDl_get dlk_L_meanValue 8 rfl rfl
theorem dk_L_meanValue_13 : tvD cL_meanValue 13 (.iconst 0) 1 14 := tvDl_get dlk_L_meanValue 9 rfl rfl
theorem dk_L_meanValue_14 : tvD cL_meanValue 14 (.ireturn) 1 15 := tvDl_get dlk_L_meanValue 10 rfl rfl
def dl_L_minutesLocked : List (Nat × Instr × Nat) := [(0, .aload_n 2, 1), (1, .iconst 0, 1), (2, .aload_n 0, 1), (3, .iload_n 1, 1), (4, .invokevirtual 59, 3), (7, .i2l, 1), (8, .lastore, 1), (9, .goto 6, 3), (12, .astore_n 3, 1), (13, .iconst 1, 1), (14, .ireturn, 1), (15, .iconst 0, 1), (16, .ireturn, 1)]
theorem dlk_L_minutesLocked : tvDl cL_minutesLocked dl_L_minutesLocked = true := by decide +kernel
theorem dk_L_minutesLocked_0 : tvD cL_minutesLocked 0 (.aload_n 2) 1 1 := tvDl_get dlk_L_minutesLocked 0 rfl rfl
theorem dk_L_minutesLocked_1 : tvD cL_minutesLocked 1 (.iconst 0) 1 2 := tvDl_get dlk_L_minutesLocked 1 rfl rfl
theorem dk_L_minutesLocked_2 : tvD cL_minutesLocked 2 (.aload_n 0) 1 3 := tvDl_get dlk_L_minutesLocked 2 rfl rfl
theorem dk_L_minutesLocked_3 : tvD cL_minutesLocked 3 (.iload_n 1) 1 4 := tvDl_get dlk_L_minutesLocked 3 rfl rfl
theorem dk_L_minutesLocked_4 : tvD cL_minutesLocked 4 (.invokevirtual 59) 3 7 := tvDl_get dlk_L_minutesLocked 4 rfl rfl
theorem dk_L_minutesLocked_7 : tvD cL_minutesLocked 7 (.i2l) 1 8 := tvDl_get dlk_L_minutesLocked 5 rfl rfl
theorem dk_L_minutesLocked_8 : tvD cL_minutesLocked 8 (.lastore) 1 9 := tvDl_get dlk_L_minutesLocked 6 rfl rfl
theorem dk_L_minutesLocked_9 : tvJ cL_minutesLocked 9 .goto 15 12 := tvJl_get dlk_L_minutesLocked 7 rfl (by decide) rfl
theorem dk_L_minutesLocked_12 : tvD cL_minutesLocked 12 (.astore_n 3) 1 13 := tvDl_get dlk_L_minutesLocked 8 rfl rfl
theorem dk_L_minutesLocked_13 : tvD cL_minutesLocked 13 (.iconst 1) 1 14 := tvDl_get dlk_L_minutesLocked 9 rfl rfl
theorem dk_L_minutesLocked_14 : tvD cL_minutesLocked 14 (.ireturn) 1 15 := tvDl_get dlk_L_minutesLocked 10 rfl rfl
theorem dk_L_minutesLocked_15 : tvD cL_minutesLocked 15 (.iconst 0) 1 16 := tvDl_get dlk_L_minutesLocked 11 rfl rfl
theorem dk_L_minutesLocked_16 : tvD cL_minutesLocked 16 (.ireturn) 1 17 := tvDl_get dlk_L_minutesLocked 12 rfl rfl
def dl_L_minutesUntilOpen : List (Nat × Instr × Nat) := [(0, .aload_n 2, 1), (1, .iconst 0, 1), (2, .aload_n 0, 1), (3, .iload_n 1, 1), (4, .invokevirtual 78, 3), (7, .i2l, 1), (8, .lastore, 1), (9, .goto 9, 3), (12, .astore_n 3, 1), (13, .iconst 1, 1), (14, .ireturn, 1), (15, .astore_n 3, 1), (16, .iconst 2, 1), (17, .ireturn, 1), (18, .iconst 0, 1), (19, .ireturn, 1)]
theorem dlk_L_minutesUntilOpen : tvDl cL_minutesUntilOpen dl_L_minutesUntilOpen = true := by decide +kernel
theorem dk_L_minutesUntilOpen_0 : tvD cL_minutesUntilOpen 0 (.aload_n 2) 1 1 := tvDl_get dlk_L_minutesUntilOpen 0 rfl rfl
theorem dk_L_minutesUntilOpen_1 : tvD cL_minutesUntilOpen 1 (.iconst 0) 1 2 := tvDl_get dlk_L_minutesUntilOpen 1 rfl rfl
theorem dk_L_minutesUntilOpen_2 : tvD cL_minutesUntilOpen 2 (.aload_n 0) 1 3 := tvDl_get dlk_L_minutesUntilOpen 2 rfl rfl
theorem dk_L_minutesUntilOpen_3 : tvD cL_minutesUntilOpen 3 (.iload_n 1) 1 4 := tvDl_get dlk_L_minutesUntilOpen 3 rfl rfl
theorem dk_L_minutesUntilOpen_4 : tvD cL_minutesUntilOpen 4 (.invokevirtual 78) 3 7 := tvDl_get dlk_L_minutesUntilOpen 4 rfl rfl
theorem dk_L_minutesUntilOpen_7 : tvD cL_minutesUntilOpen 7 (.i2l) 1 8 := tvDl_get dlk_L_minutesUntilOpen 5 rfl rfl
theorem dk_L_minutesUntilOpen_8 : tvD cL_minutesUntilOpen 8 (.lastore) 1 9 := tvDl_get dlk_L_minutesUntilOpen 6 rfl rfl
theorem dk_L_minutesUntilOpen_9 : tvJ cL_minutesUntilOpen 9 .goto 18 12 := tvJl_get dlk_L_minutesUntilOpen 7 rfl (by decide) rfl
theorem dk_L_minutesUntilOpen_12 : tvD cL_minutesUntilOpen 12 (.astore_n 3) 1 13 := tvDl_get dlk_L_minutesUntilOpen 8 rfl rfl
theorem dk_L_minutesUntilOpen_13 : tvD cL_minutesUntilOpen 13 (.iconst 1) 1 14 := tvDl_get dlk_L_minutesUntilOpen 9 rfl rfl
theorem dk_L_minutesUntilOpen_14 : tvD cL_minutesUntilOpen 14 (.ireturn) 1 15 := tvDl_get dlk_L_minutesUntilOpen 10 rfl rfl
theorem dk_L_minutesUntilOpen_15 : tvD cL_minutesUntilOpen 15 (.astore_n 3) 1 16 := tvDl_get dlk_L_minutesUntilOpen 11 rfl rfl
theorem dk_L_minutesUntilOpen_16 : tvD cL_minutesUntilOpen 16 (.iconst 2) 1 17 := tvDl_get dlk_L_minutesUntilOpen 12 rfl rfl
theorem dk_L_minutesUntilOpen_17 : tvD cL_minutesUntilOpen 17 (.ireturn) 1 18 := tvDl_get dlk_L_minutesUntilOpen 13 rfl rfl
theorem dk_L_minutesUntilOpen_18 : tvD cL_minutesUntilOpen 18 (.iconst 0) 1 19 := tvDl_get dlk_L_minutesUntilOpen 14 rfl rfl
theorem dk_L_minutesUntilOpen_19 : tvD cL_minutesUntilOpen 19 (.ireturn) 1 20 := tvDl_get dlk_L_minutesUntilOpen 15 rfl rfl
def dl_L_minutesUntilOpenBySimulation : List (Nat × Instr × Nat) := [(0, .aload_n 2, 1), (1, .iconst 0, 1), (2, .aload_n 0, 1), (3, .iload_n 1, 1), (4, .invokevirtual 81, 3), (7, .i2l, 1), (8, .lastore, 1), (9, .goto 9, 3), (12, .astore_n 3, 1), (13, .iconst 1, 1), (14, .ireturn, 1), (15, .astore_n 3, 1), (16, .iconst 2, 1), (17, .ireturn, 1), (18, .iconst 0, 1), (19, .ireturn, 1)]
theorem dlk_L_minutesUntilOpenBySimulation : tvDl cL_minutesUntilOpenBySimulation dl_L_minutesUntilOpenBySimulation = true := by decide +kernel
theorem dk_L_minutesUntilOpenBySimulation_0 : tvD cL_minutesUntilOpenBySimulation 0 (.aload_n 2) 1 1 := tvDl_get dlk_L_minutesUntilOpenBySimulation 0 rfl rfl
theorem dk_L_minutesUntilOpenBySimulation_1 : tvD cL_minutesUntilOpenBySimulation 1 (.iconst 0) 1 2 := tvDl_get dlk_L_minutesUntilOpenBySimulation 1 rfl rfl
theorem dk_L_minutesUntilOpenBySimulation_2 : tvD cL_minutesUntilOpenBySimulation 2 (.aload_n 0) 1 3 := tvDl_get dlk_L_minutesUntilOpenBySimulation 2 rfl rfl
theorem dk_L_minutesUntilOpenBySimulation_3 : tvD cL_minutesUntilOpenBySimulation 3 (.iload_n 1) 1 4 := tvDl_get dlk_L_minutesUntilOpenBySimulation 3 rfl rfl
theorem dk_L_minutesUntilOpenBySimulation_4 : tvD cL_minutesUntilOpenBySimulation 4 (.invokevirtual 81) 3 7 := tvDl_get dlk_L_minutesUntilOpenBySimulation 4 rfl rfl
theorem dk_L_minutesUntilOpenBySimulation_7 : tvD cL_minutesUntilOpenBySimulation 7 (.i2l) 1 8 := tvDl_get dlk_L_minutesUntilOpenBySimulation 5 rfl rfl
theorem dk_L_minutesUntilOpenBySimulation_8 : tvD cL_minutesUntilOpenBySimulation 8 (.lastore) 1 9 := tvDl_get dlk_L_minutesUntilOpenBySimulation 6 rfl rfl
theorem dk_L_minutesUntilOpenBySimulation_9 : tvJ cL_minutesUntilOpenBySimulation 9 .goto 18 12 := tvJl_get dlk_L_minutesUntilOpenBySimulation 7 rfl (by decide) rfl
theorem dk_L_minutesUntilOpenBySimulation_12 : tvD cL_minutesUntilOpenBySimulation 12 (.astore_n 3) 1 13 := tvDl_get dlk_L_minutesUntilOpenBySimulation 8 rfl rfl
theorem dk_L_minutesUntilOpenBySimulation_13 : tvD cL_minutesUntilOpenBySimulation 13 (.iconst 1) 1 14 := tvDl_get dlk_L_minutesUntilOpenBySimulation 9 rfl rfl
theorem dk_L_minutesUntilOpenBySimulation_14 : tvD cL_minutesUntilOpenBySimulation 14 (.ireturn) 1 15 := tvDl_get dlk_L_minutesUntilOpenBySimulation 10 rfl rfl
theorem dk_L_minutesUntilOpenBySimulation_15 : tvD cL_minutesUntilOpenBySimulation 15 (.astore_n 3) 1 16 := tvDl_get dlk_L_minutesUntilOpenBySimulation 11 rfl rfl
theorem dk_L_minutesUntilOpenBySimulation_16 : tvD cL_minutesUntilOpenBySimulation 16 (.iconst 2) 1 17 := tvDl_get dlk_L_minutesUntilOpenBySimulation 12 rfl rfl
theorem dk_L_minutesUntilOpenBySimulation_17 : tvD cL_minutesUntilOpenBySimulation 17 (.ireturn) 1 18 := tvDl_get dlk_L_minutesUntilOpenBySimulation 13 rfl rfl
theorem dk_L_minutesUntilOpenBySimulation_18 : tvD cL_minutesUntilOpenBySimulation 18 (.iconst 0) 1 19 := tvDl_get dlk_L_minutesUntilOpenBySimulation 14 rfl rfl
theorem dk_L_minutesUntilOpenBySimulation_19 : tvD cL_minutesUntilOpenBySimulation 19 (.ireturn) 1 20 := tvDl_get dlk_L_minutesUntilOpenBySimulation 15 rfl rfl
def dl_L_otherHolder : List (Nat × Instr × Nat) := [(0, .aload_n 3, 1), (1, .iconst 0, 1), (2, .aload_n 0, 1), (3, .iload_n 1, 1), (4, .iload_n 2, 1), (5, .invokevirtual 65, 3), (8, .i2l, 1), (9, .lastore, 1), (10, .goto 11, 3), (13, .astore 4, 2), (15, .iconst 1, 1), (16, .ireturn, 1), (17, .astore 4, 2), (19, .iconst 2, 1), (20, .ireturn, 1), (21, .iconst 0, 1), (22, .ireturn, 1)]
theorem dlk_L_otherHolder : tvDl cL_otherHolder dl_L_otherHolder = true := by decide +kernel
theorem dk_L_otherHolder_0 : tvD cL_otherHolder 0 (.aload_n 3) 1 1 := tvDl_get dlk_L_otherHolder 0 rfl rfl
theorem dk_L_otherHolder_1 : tvD cL_otherHolder 1 (.iconst 0) 1 2 := tvDl_get dlk_L_otherHolder 1 rfl rfl
theorem dk_L_otherHolder_2 : tvD cL_otherHolder 2 (.aload_n 0) 1 3 := tvDl_get dlk_L_otherHolder 2 rfl rfl
theorem dk_L_otherHolder_3 : tvD cL_otherHolder 3 (.iload_n 1) 1 4 := tvDl_get dlk_L_otherHolder 3 rfl rfl
theorem dk_L_otherHolder_4 : tvD cL_otherHolder 4 (.iload_n 2) 1 5 := tvDl_get dlk_L_otherHolder 4 rfl rfl
theorem dk_L_otherHolder_5 : tvD cL_otherHolder 5 (.invokevirtual 65) 3 8 := tvDl_get dlk_L_otherHolder 5 rfl rfl
theorem dk_L_otherHolder_8 : tvD cL_otherHolder 8 (.i2l) 1 9 := tvDl_get dlk_L_otherHolder 6 rfl rfl
theorem dk_L_otherHolder_9 : tvD cL_otherHolder 9 (.lastore) 1 10 := tvDl_get dlk_L_otherHolder 7 rfl rfl
theorem dk_L_otherHolder_10 : tvJ cL_otherHolder 10 .goto 21 13 := tvJl_get dlk_L_otherHolder 8 rfl (by decide) rfl
theorem dk_L_otherHolder_13 : tvD cL_otherHolder 13 (.astore 4) 2 15 := tvDl_get dlk_L_otherHolder 9 rfl rfl
theorem dk_L_otherHolder_15 : tvD cL_otherHolder 15 (.iconst 1) 1 16 := tvDl_get dlk_L_otherHolder 10 rfl rfl
theorem dk_L_otherHolder_16 : tvD cL_otherHolder 16 (.ireturn) 1 17 := tvDl_get dlk_L_otherHolder 11 rfl rfl
theorem dk_L_otherHolder_17 : tvD cL_otherHolder 17 (.astore 4) 2 19 := tvDl_get dlk_L_otherHolder 12 rfl rfl
theorem dk_L_otherHolder_19 : tvD cL_otherHolder 19 (.iconst 2) 1 20 := tvDl_get dlk_L_otherHolder 13 rfl rfl
theorem dk_L_otherHolder_20 : tvD cL_otherHolder 20 (.ireturn) 1 21 := tvDl_get dlk_L_otherHolder 14 rfl rfl
theorem dk_L_otherHolder_21 : tvD cL_otherHolder 21 (.iconst 0) 1 22 := tvDl_get dlk_L_otherHolder 15 rfl rfl
theorem dk_L_otherHolder_22 : tvD cL_otherHolder 22 (.ireturn) 1 23 := tvDl_get dlk_L_otherHolder 16 rfl rfl
def dl_L_pass : List (Nat × Instr × Nat) := [(0, .aload_n 2, 1), (1, .iconst 0, 1), (2, .aload_n 0, 1), (3, .iload_n 1, 1), (4, .invokevirtual 47, 3), (7, .i2l, 1), (8, .lastore, 1), (9, .goto 6, 3), (12, .astore_n 3, 1), (13, .iconst 1, 1), (14, .ireturn, 1), (15, .iconst 0, 1), (16, .ireturn, 1)]
theorem dlk_L_pass : tvDl cL_pass dl_L_pass = true := by decide +kernel
theorem dk_L_pass_0 : tvD cL_pass 0 (.aload_n 2) 1 1 := tvDl_get dlk_L_pass 0 rfl rfl
theorem dk_L_pass_1 : tvD cL_pass 1 (.iconst 0) 1 2 := tvDl_get dlk_L_pass 1 rfl rfl
theorem dk_L_pass_2 : tvD cL_pass 2 (.aload_n 0) 1 3 := tvDl_get dlk_L_pass 2 rfl rfl
theorem dk_L_pass_3 : tvD cL_pass 3 (.iload_n 1) 1 4 := tvDl_get dlk_L_pass 3 rfl rfl
theorem dk_L_pass_4 : tvD cL_pass 4 (.invokevirtual 47) 3 7 := tvDl_get dlk_L_pass 4 rfl rfl
theorem dk_L_pass_7 : tvD cL_pass 7 (.i2l) 1 8 := tvDl_get dlk_L_pass 5 rfl rfl
theorem dk_L_pass_8 : tvD cL_pass 8 (.lastore) 1 9 := tvDl_get dlk_L_pass 6 rfl rfl
theorem dk_L_pass_9 : tvJ cL_pass 9 .goto 15 12 := tvJl_get dlk_L_pass 7 rfl (by decide) rfl
theorem dk_L_pass_12 : tvD cL_pass 12 (.astore_n 3) 1 13 := tvDl_get dlk_L_pass 8 rfl rfl
theorem dk_L_pass_13 : tvD cL_pass 13 (.iconst 1) 1 14 := tvDl_get dlk_L_pass 9 rfl rfl
theorem dk_L_pass_14 : tvD cL_pass 14 (.ireturn) 1 15 := tvDl_get dlk_L_pass 10 rfl rfl
theorem dk_L_pass_15 : tvD cL_pass 15 (.iconst 0) 1 16 := tvDl_get dlk_L_pass 11 rfl rfl
theorem dk_L_pass_16 : tvD cL_pass 16 (.ireturn) 1 17 := tvDl_get dlk_L_pass 12 rfl rfl
def dl_L_pearl : List (Nat × Instr × Nat) := [(0, .aload_n 3, 1), (1, .iconst 0, 1), (2, .aload_n 0, 1), (3, .iload_n 1, 1), (4, .iload_n 2, 1), (5, .invokevirtual 87, 3), (8, .i2l, 1), (9, .lastore, 1), (10, .goto 11, 3), (13, .astore 4, 2), (15, .iconst 1, 1), (16, .ireturn, 1), (17, .astore 4, 2), (19, .iconst 2, 1), (20, .ireturn, 1), (21, .iconst 0, 1), (22, .ireturn, 1)]
theorem dlk_L_pearl : tvDl cL_pearl dl_L_pearl = true := by decide +kernel
theorem dk_L_pearl_0 : tvD cL_pearl 0 (.aload_n 3) 1 1 := tvDl_get dlk_L_pearl 0 rfl rfl
theorem dk_L_pearl_1 : tvD cL_pearl 1 (.iconst 0) 1 2 := tvDl_get dlk_L_pearl 1 rfl rfl
theorem dk_L_pearl_2 : tvD cL_pearl 2 (.aload_n 0) 1 3 := tvDl_get dlk_L_pearl 2 rfl rfl
theorem dk_L_pearl_3 : tvD cL_pearl 3 (.iload_n 1) 1 4 := tvDl_get dlk_L_pearl 3 rfl rfl
theorem dk_L_pearl_4 : tvD cL_pearl 4 (.iload_n 2) 1 5 := tvDl_get dlk_L_pearl 4 rfl rfl
theorem dk_L_pearl_5 : tvD cL_pearl 5 (.invokevirtual 87) 3 8 := tvDl_get dlk_L_pearl 5 rfl rfl
theorem dk_L_pearl_8 : tvD cL_pearl 8 (.i2l) 1 9 := tvDl_get dlk_L_pearl 6 rfl rfl
theorem dk_L_pearl_9 : tvD cL_pearl 9 (.lastore) 1 10 := tvDl_get dlk_L_pearl 7 rfl rfl
theorem dk_L_pearl_10 : tvJ cL_pearl 10 .goto 21 13 := tvJl_get dlk_L_pearl 8 rfl (by decide) rfl
theorem dk_L_pearl_13 : tvD cL_pearl 13 (.astore 4) 2 15 := tvDl_get dlk_L_pearl 9 rfl rfl
theorem dk_L_pearl_15 : tvD cL_pearl 15 (.iconst 1) 1 16 := tvDl_get dlk_L_pearl 10 rfl rfl
theorem dk_L_pearl_16 : tvD cL_pearl 16 (.ireturn) 1 17 := tvDl_get dlk_L_pearl 11 rfl rfl
theorem dk_L_pearl_17 : tvD cL_pearl 17 (.astore 4) 2 19 := tvDl_get dlk_L_pearl 12 rfl rfl
theorem dk_L_pearl_19 : tvD cL_pearl 19 (.iconst 2) 1 20 := tvDl_get dlk_L_pearl 13 rfl rfl
theorem dk_L_pearl_20 : tvD cL_pearl 20 (.ireturn) 1 21 := tvDl_get dlk_L_pearl 14 rfl rfl
theorem dk_L_pearl_21 : tvD cL_pearl 21 (.iconst 0) 1 22 := tvDl_get dlk_L_pearl 15 rfl rfl
theorem dk_L_pearl_22 : tvD cL_pearl 22 (.ireturn) 1 23 := tvDl_get dlk_L_pearl 16 rfl rfl
def dl_L_pearls : List (Nat × Instr × Nat) := [(0, .aload_n 2, 1), (1, .iconst 0, 1), (2, .aload_n 0, 1), (3, .iload_n 1, 1), (4, .invokevirtual 84, 3), (7, .i2l, 1), (8, .lastore, 1), (9, .goto 6, 3), (12, .astore_n 3, 1), (13, .iconst 1, 1), (14, .ireturn, 1), (15, .iconst 0, 1), (16, .ireturn, 1)]
theorem dlk_L_pearls : tvDl cL_pearls dl_L_pearls = true := by decide +kernel
theorem dk_L_pearls_0 : tvD cL_pearls 0 (.aload_n 2) 1 1 := tvDl_get dlk_L_pearls 0 rfl rfl
theorem dk_L_pearls_1 : tvD cL_pearls 1 (.iconst 0) 1 2 := tvDl_get dlk_L_pearls 1 rfl rfl
theorem dk_L_pearls_2 : tvD cL_pearls 2 (.aload_n 0) 1 3 := tvDl_get dlk_L_pearls 2 rfl rfl
theorem dk_L_pearls_3 : tvD cL_pearls 3 (.iload_n 1) 1 4 := tvDl_get dlk_L_pearls 3 rfl rfl
theorem dk_L_pearls_4 : tvD cL_pearls 4 (.invokevirtual 84) 3 7 := tvDl_get dlk_L_pearls 4 rfl rfl
theorem dk_L_pearls_7 : tvD cL_pearls 7 (.i2l) 1 8 := tvDl_get dlk_L_pearls 5 rfl rfl
theorem dk_L_pearls_8 : tvD cL_pearls 8 (.lastore) 1 9 := tvDl_get dlk_L_pearls 6 rfl rfl
theorem dk_L_pearls_9 : tvJ cL_pearls 9 .goto 15 12 := tvJl_get dlk_L_pearls 7 rfl (by decide) rfl
theorem dk_L_pearls_12 : tvD cL_pearls 12 (.astore_n 3) 1 13 := tvDl_get dlk_L_pearls 8 rfl rfl
theorem dk_L_pearls_13 : tvD cL_pearls 13 (.iconst 1) 1 14 := tvDl_get dlk_L_pearls 9 rfl rfl
theorem dk_L_pearls_14 : tvD cL_pearls 14 (.ireturn) 1 15 := tvDl_get dlk_L_pearls 10 rfl rfl
theorem dk_L_pearls_15 : tvD cL_pearls 15 (.iconst 0) 1 16 := tvDl_get dlk_L_pearls 11 rfl rfl
theorem dk_L_pearls_16 : tvD cL_pearls 16 (.ireturn) 1 17 := tvDl_get dlk_L_pearls 12 rfl rfl
def dl_L_remainingDelay : List (Nat × Instr × Nat) := [(0, .aload_n 2, 1), (1, .iconst 0, 1), (2, .aload_n 0, 1), (3, .iload_n 1, 1), (4, .invokevirtual 75, 3), (7, .i2l, 1), (8, .lastore, 1), (9, .goto 9, 3), (12, .astore_n 3, 1), (13, .iconst 1, 1), (14, .ireturn, 1), (15, .astore_n 3, 1), (16, .iconst 2, 1), (17, .ireturn, 1), (18, .iconst 0, 1), (19, .ireturn, 1)]
theorem dlk_L_remainingDelay : tvDl cL_remainingDelay dl_L_remainingDelay = true := by decide +kernel
theorem dk_L_remainingDelay_0 : tvD cL_remainingDelay 0 (.aload_n 2) 1 1 := tvDl_get dlk_L_remainingDelay 0 rfl rfl
theorem dk_L_remainingDelay_1 : tvD cL_remainingDelay 1 (.iconst 0) 1 2 := tvDl_get dlk_L_remainingDelay 1 rfl rfl
theorem dk_L_remainingDelay_2 : tvD cL_remainingDelay 2 (.aload_n 0) 1 3 := tvDl_get dlk_L_remainingDelay 2 rfl rfl
theorem dk_L_remainingDelay_3 : tvD cL_remainingDelay 3 (.iload_n 1) 1 4 := tvDl_get dlk_L_remainingDelay 3 rfl rfl
theorem dk_L_remainingDelay_4 : tvD cL_remainingDelay 4 (.invokevirtual 75) 3 7 := tvDl_get dlk_L_remainingDelay 4 rfl rfl
theorem dk_L_remainingDelay_7 : tvD cL_remainingDelay 7 (.i2l) 1 8 := tvDl_get dlk_L_remainingDelay 5 rfl rfl
theorem dk_L_remainingDelay_8 : tvD cL_remainingDelay 8 (.lastore) 1 9 := tvDl_get dlk_L_remainingDelay 6 rfl rfl
theorem dk_L_remainingDelay_9 : tvJ cL_remainingDelay 9 .goto 18 12 := tvJl_get dlk_L_remainingDelay 7 rfl (by decide) rfl
theorem dk_L_remainingDelay_12 : tvD cL_remainingDelay 12 (.astore_n 3) 1 13 := tvDl_get dlk_L_remainingDelay 8 rfl rfl
theorem dk_L_remainingDelay_13 : tvD cL_remainingDelay 13 (.iconst 1) 1 14 := tvDl_get dlk_L_remainingDelay 9 rfl rfl
theorem dk_L_remainingDelay_14 : tvD cL_remainingDelay 14 (.ireturn) 1 15 := tvDl_get dlk_L_remainingDelay 10 rfl rfl
theorem dk_L_remainingDelay_15 : tvD cL_remainingDelay 15 (.astore_n 3) 1 16 := tvDl_get dlk_L_remainingDelay 11 rfl rfl
theorem dk_L_remainingDelay_16 : tvD cL_remainingDelay 16 (.iconst 2) 1 17 := tvDl_get dlk_L_remainingDelay 12 rfl rfl
theorem dk_L_remainingDelay_17 : tvD cL_remainingDelay 17 (.ireturn) 1 18 := tvDl_get dlk_L_remainingDelay 13 rfl rfl
theorem dk_L_remainingDelay_18 : tvD cL_remainingDelay 18 (.iconst 0) 1 19 := tvDl_get dlk_L_remainingDelay 14 rfl rfl
theorem dk_L_remainingDelay_19 : tvD cL_remainingDelay 19 (.ireturn) 1 20 := tvDl_get dlk_L_remainingDelay 15 rfl rfl
def dl_L_restore : List (Nat × Instr × Nat) := [(0, .aload_n 1, 1), (1, .iconst 0, 1), (2, .aload_n 0, 1), (3, .invokevirtual 139, 3), (6, .i2l, 1), (7, .lastore, 1), (8, .goto 6, 3), (11, .astore_n 2, 1), (12, .iconst 1, 1), (13, .ireturn, 1), (14, .iconst 0, 1), (15, .ireturn, 1)]
theorem dlk_L_restore : tvDl cL_restore dl_L_restore = true := by decide +kernel
theorem dk_L_restore_0 : tvD cL_restore 0 (.aload_n 1) 1 1 := tvDl_get dlk_L_restore 0 rfl rfl
theorem dk_L_restore_1 : tvD cL_restore 1 (.iconst 0) 1 2 := tvDl_get dlk_L_restore 1 rfl rfl
theorem dk_L_restore_2 : tvD cL_restore 2 (.aload_n 0) 1 3 := tvDl_get dlk_L_restore 2 rfl rfl
theorem dk_L_restore_3 : tvD cL_restore 3 (.invokevirtual 139) 3 6 := tvDl_get dlk_L_restore 3 rfl rfl
theorem dk_L_restore_6 : tvD cL_restore 6 (.i2l) 1 7 := tvDl_get dlk_L_restore 4 rfl rfl
theorem dk_L_restore_7 : tvD cL_restore 7 (.lastore) 1 8 := tvDl_get dlk_L_restore 5 rfl rfl
theorem dk_L_restore_8 : tvJ cL_restore 8 .goto 14 11 := tvJl_get dlk_L_restore 6 rfl (by decide) rfl
theorem dk_L_restore_11 : tvD cL_restore 11 (.astore_n 2) 1 12 := tvDl_get dlk_L_restore 7 rfl rfl
theorem dk_L_restore_12 : tvD cL_restore 12 (.iconst 1) 1 13 := tvDl_get dlk_L_restore 8 rfl rfl
theorem dk_L_restore_13 : tvD cL_restore 13 (.ireturn) 1 14 := tvDl_get dlk_L_restore 9 rfl rfl
theorem dk_L_restore_14 : tvD cL_restore 14 (.iconst 0) 1 15 := tvDl_get dlk_L_restore 10 rfl rfl
theorem dk_L_restore_15 : tvD cL_restore 15 (.ireturn) 1 16 := tvDl_get dlk_L_restore 11 rfl rfl
def dl_L_run : List (Nat × Instr × Nat) := [(0, .aload_n 1, 1), (1, .iconst 0, 1), (2, .aload_n 0, 1), (3, .invokevirtual 122, 3), (6, .i2l, 1), (7, .lastore, 1), (8, .goto 9, 3), (11, .astore_n 2, 1), (12, .iconst 1, 1), (13, .ireturn, 1), (14, .astore_n 2, 1), (15, .iconst 2, 1), (16, .ireturn, 1), (17, .iconst 0, 1), (18, .ireturn, 1)]
theorem dlk_L_run : tvDl cL_run dl_L_run = true := by decide +kernel
theorem dk_L_run_0 : tvD cL_run 0 (.aload_n 1) 1 1 := tvDl_get dlk_L_run 0 rfl rfl
theorem dk_L_run_1 : tvD cL_run 1 (.iconst 0) 1 2 := tvDl_get dlk_L_run 1 rfl rfl
theorem dk_L_run_2 : tvD cL_run 2 (.aload_n 0) 1 3 := tvDl_get dlk_L_run 2 rfl rfl
theorem dk_L_run_3 : tvD cL_run 3 (.invokevirtual 122) 3 6 := tvDl_get dlk_L_run 3 rfl rfl
theorem dk_L_run_6 : tvD cL_run 6 (.i2l) 1 7 := tvDl_get dlk_L_run 4 rfl rfl
theorem dk_L_run_7 : tvD cL_run 7 (.lastore) 1 8 := tvDl_get dlk_L_run 5 rfl rfl
theorem dk_L_run_8 : tvJ cL_run 8 .goto 17 11 := tvJl_get dlk_L_run 6 rfl (by decide) rfl
theorem dk_L_run_11 : tvD cL_run 11 (.astore_n 2) 1 12 := tvDl_get dlk_L_run 7 rfl rfl
theorem dk_L_run_12 : tvD cL_run 12 (.iconst 1) 1 13 := tvDl_get dlk_L_run 8 rfl rfl
theorem dk_L_run_13 : tvD cL_run 13 (.ireturn) 1 14 := tvDl_get dlk_L_run 9 rfl rfl
theorem dk_L_run_14 : tvD cL_run 14 (.astore_n 2) 1 15 := tvDl_get dlk_L_run 10 rfl rfl
theorem dk_L_run_15 : tvD cL_run 15 (.iconst 2) 1 16 := tvDl_get dlk_L_run 11 rfl rfl
theorem dk_L_run_16 : tvD cL_run 16 (.ireturn) 1 17 := tvDl_get dlk_L_run 12 rfl rfl
theorem dk_L_run_17 : tvD cL_run 17 (.iconst 0) 1 18 := tvDl_get dlk_L_run 13 rfl rfl
theorem dk_L_run_18 : tvD cL_run 18 (.ireturn) 1 19 := tvDl_get dlk_L_run 14 rfl rfl
def dl_L_setTide : List (Nat × Instr × Nat) := [(0, .aload_n 3, 1), (1, .iconst 0, 1), (2, .aload_n 0, 1), (3, .iload_n 1, 1), (4, .iload_n 2, 1), (5, .invokevirtual 23, 3), (8, .i2l, 1), (9, .lastore, 1), (10, .goto 7, 3), (13, .astore 4, 2), (15, .iconst 1, 1), (16, .ireturn, 1), (17, .iconst 0, 1), (18, .ireturn, 1)]
theorem dlk_L_setTide : tvDl cL_setTide dl_L_setTide = true := by decide +kernel
theorem dk_L_setTide_0 : tvD cL_setTide 0 (.aload_n 3) 1 1 := tvDl_get dlk_L_setTide 0 rfl rfl
theorem dk_L_setTide_1 : tvD cL_setTide 1 (.iconst 0) 1 2 := tvDl_get dlk_L_setTide 1 rfl rfl
theorem dk_L_setTide_2 : tvD cL_setTide 2 (.aload_n 0) 1 3 := tvDl_get dlk_L_setTide 2 rfl rfl
theorem dk_L_setTide_3 : tvD cL_setTide 3 (.iload_n 1) 1 4 := tvDl_get dlk_L_setTide 3 rfl rfl
theorem dk_L_setTide_4 : tvD cL_setTide 4 (.iload_n 2) 1 5 := tvDl_get dlk_L_setTide 4 rfl rfl
theorem dk_L_setTide_5 : tvD cL_setTide 5 (.invokevirtual 23) 3 8 := tvDl_get dlk_L_setTide 5 rfl rfl
theorem dk_L_setTide_8 : tvD cL_setTide 8 (.i2l) 1 9 := tvDl_get dlk_L_setTide 6 rfl rfl
theorem dk_L_setTide_9 : tvD cL_setTide 9 (.lastore) 1 10 := tvDl_get dlk_L_setTide 7 rfl rfl
theorem dk_L_setTide_10 : tvJ cL_setTide 10 .goto 17 13 := tvJl_get dlk_L_setTide 8 rfl (by decide) rfl
theorem dk_L_setTide_13 : tvD cL_setTide 13 (.astore 4) 2 15 := tvDl_get dlk_L_setTide 9 rfl rfl
theorem dk_L_setTide_15 : tvD cL_setTide 15 (.iconst 1) 1 16 := tvDl_get dlk_L_setTide 10 rfl rfl
theorem dk_L_setTide_16 : tvD cL_setTide 16 (.ireturn) 1 17 := tvDl_get dlk_L_setTide 11 rfl rfl
theorem dk_L_setTide_17 : tvD cL_setTide 17 (.iconst 0) 1 18 := tvDl_get dlk_L_setTide 12 rfl rfl
theorem dk_L_setTide_18 : tvD cL_setTide 18 (.ireturn) 1 19 := tvDl_get dlk_L_setTide 13 rfl rfl
def dl_L_status : List (Nat × Instr × Nat) := [(0, .aload_n 2, 1), (1, .iconst 0, 1), (2, .aload_n 0, 1), (3, .iload_n 1, 1), (4, .invokevirtual 68, 3), (7, .i2l, 1), (8, .lastore, 1), (9, .goto 6, 3), (12, .astore_n 3, 1), (13, .iconst 1, 1), (14, .ireturn, 1), (15, .iconst 0, 1), (16, .ireturn, 1)]
theorem dlk_L_status : tvDl cL_status dl_L_status = true := by decide +kernel
theorem dk_L_status_0 : tvD cL_status 0 (.aload_n 2) 1 1 := tvDl_get dlk_L_status 0 rfl rfl
theorem dk_L_status_1 : tvD cL_status 1 (.iconst 0) 1 2 := tvDl_get dlk_L_status 1 rfl rfl
theorem dk_L_status_2 : tvD cL_status 2 (.aload_n 0) 1 3 := tvDl_get dlk_L_status 2 rfl rfl
theorem dk_L_status_3 : tvD cL_status 3 (.iload_n 1) 1 4 := tvDl_get dlk_L_status 3 rfl rfl
theorem dk_L_status_4 : tvD cL_status 4 (.invokevirtual 68) 3 7 := tvDl_get dlk_L_status 4 rfl rfl
theorem dk_L_status_7 : tvD cL_status 7 (.i2l) 1 8 := tvDl_get dlk_L_status 5 rfl rfl
theorem dk_L_status_8 : tvD cL_status 8 (.lastore) 1 9 := tvDl_get dlk_L_status 6 rfl rfl
theorem dk_L_status_9 : tvJ cL_status 9 .goto 15 12 := tvJl_get dlk_L_status 7 rfl (by decide) rfl
theorem dk_L_status_12 : tvD cL_status 12 (.astore_n 3) 1 13 := tvDl_get dlk_L_status 8 rfl rfl
theorem dk_L_status_13 : tvD cL_status 13 (.iconst 1) 1 14 := tvDl_get dlk_L_status 9 rfl rfl
theorem dk_L_status_14 : tvD cL_status 14 (.ireturn) 1 15 := tvDl_get dlk_L_status 10 rfl rfl
theorem dk_L_status_15 : tvD cL_status 15 (.iconst 0) 1 16 := tvDl_get dlk_L_status 11 rfl rfl
theorem dk_L_status_16 : tvD cL_status 16 (.ireturn) 1 17 := tvDl_get dlk_L_status 12 rfl rfl
def dl_L_turnKey : List (Nat × Instr × Nat) := [(0, .aload 4, 2), (2, .iconst 0, 1), (3, .aload_n 0, 1), (4, .iload_n 1, 1), (5, .iload_n 2, 1), (6, .iload_n 3, 1), (7, .invokevirtual 27, 3), (10, .i2l, 1), (11, .lastore, 1), (12, .goto 19, 3), (15, .astore 5, 2), (17, .iconst 1, 1), (18, .ireturn, 1), (19, .astore 5, 2), (21, .iconst 2, 1), (22, .ireturn, 1), (23, .astore 5, 2), (25, .iconst 3, 1), (26, .ireturn, 1), (27, .astore 5, 2), (29, .iconst 4, 1), (30, .ireturn, 1), (31, .iconst 0, 1), (32, .ireturn, 1)]
theorem dlk_L_turnKey : tvDl cL_turnKey dl_L_turnKey = true := by decide +kernel
theorem dk_L_turnKey_0 : tvD cL_turnKey 0 (.aload 4) 2 2 := tvDl_get dlk_L_turnKey 0 rfl rfl
theorem dk_L_turnKey_2 : tvD cL_turnKey 2 (.iconst 0) 1 3 := tvDl_get dlk_L_turnKey 1 rfl rfl
theorem dk_L_turnKey_3 : tvD cL_turnKey 3 (.aload_n 0) 1 4 := tvDl_get dlk_L_turnKey 2 rfl rfl
theorem dk_L_turnKey_4 : tvD cL_turnKey 4 (.iload_n 1) 1 5 := tvDl_get dlk_L_turnKey 3 rfl rfl
theorem dk_L_turnKey_5 : tvD cL_turnKey 5 (.iload_n 2) 1 6 := tvDl_get dlk_L_turnKey 4 rfl rfl
theorem dk_L_turnKey_6 : tvD cL_turnKey 6 (.iload_n 3) 1 7 := tvDl_get dlk_L_turnKey 5 rfl rfl
theorem dk_L_turnKey_7 : tvD cL_turnKey 7 (.invokevirtual 27) 3 10 := tvDl_get dlk_L_turnKey 6 rfl rfl
theorem dk_L_turnKey_10 : tvD cL_turnKey 10 (.i2l) 1 11 := tvDl_get dlk_L_turnKey 7 rfl rfl
theorem dk_L_turnKey_11 : tvD cL_turnKey 11 (.lastore) 1 12 := tvDl_get dlk_L_turnKey 8 rfl rfl
theorem dk_L_turnKey_12 : tvJ cL_turnKey 12 .goto 31 15 := tvJl_get dlk_L_turnKey 9 rfl (by decide) rfl
theorem dk_L_turnKey_15 : tvD cL_turnKey 15 (.astore 5) 2 17 := tvDl_get dlk_L_turnKey 10 rfl rfl
theorem dk_L_turnKey_17 : tvD cL_turnKey 17 (.iconst 1) 1 18 := tvDl_get dlk_L_turnKey 11 rfl rfl
theorem dk_L_turnKey_18 : tvD cL_turnKey 18 (.ireturn) 1 19 := tvDl_get dlk_L_turnKey 12 rfl rfl
theorem dk_L_turnKey_19 : tvD cL_turnKey 19 (.astore 5) 2 21 := tvDl_get dlk_L_turnKey 13 rfl rfl
theorem dk_L_turnKey_21 : tvD cL_turnKey 21 (.iconst 2) 1 22 := tvDl_get dlk_L_turnKey 14 rfl rfl
theorem dk_L_turnKey_22 : tvD cL_turnKey 22 (.ireturn) 1 23 := tvDl_get dlk_L_turnKey 15 rfl rfl
theorem dk_L_turnKey_23 : tvD cL_turnKey 23 (.astore 5) 2 25 := tvDl_get dlk_L_turnKey 16 rfl rfl
theorem dk_L_turnKey_25 : tvD cL_turnKey 25 (.iconst 3) 1 26 := tvDl_get dlk_L_turnKey 17 rfl rfl
theorem dk_L_turnKey_26 : tvD cL_turnKey 26 (.ireturn) 1 27 := tvDl_get dlk_L_turnKey 18 rfl rfl
theorem dk_L_turnKey_27 : tvD cL_turnKey 27 (.astore 5) 2 29 := tvDl_get dlk_L_turnKey 19 rfl rfl
theorem dk_L_turnKey_29 : tvD cL_turnKey 29 (.iconst 4) 1 30 := tvDl_get dlk_L_turnKey 20 rfl rfl
theorem dk_L_turnKey_30 : tvD cL_turnKey 30 (.ireturn) 1 31 := tvDl_get dlk_L_turnKey 21 rfl rfl
theorem dk_L_turnKey_31 : tvD cL_turnKey 31 (.iconst 0) 1 32 := tvDl_get dlk_L_turnKey 22 rfl rfl
theorem dk_L_turnKey_32 : tvD cL_turnKey 32 (.ireturn) 1 33 := tvDl_get dlk_L_turnKey 23 rfl rfl
def dl_L_type : List (Nat × Instr × Nat) := [(0, .aload_n 2, 1), (1, .iconst 0, 1), (2, .aload_n 0, 1), (3, .iload_n 1, 1), (4, .invokevirtual 118, 3), (7, .i2l, 1), (8, .lastore, 1), (9, .goto 6, 3), (12, .astore_n 3, 1), (13, .iconst 1, 1), (14, .ireturn, 1), (15, .iconst 0, 1), (16, .ireturn, 1)]
theorem dlk_L_type : tvDl cL_type dl_L_type = true := by decide +kernel
theorem dk_L_type_0 : tvD cL_type 0 (.aload_n 2) 1 1 := tvDl_get dlk_L_type 0 rfl rfl
theorem dk_L_type_1 : tvD cL_type 1 (.iconst 0) 1 2 := tvDl_get dlk_L_type 1 rfl rfl
theorem dk_L_type_2 : tvD cL_type 2 (.aload_n 0) 1 3 := tvDl_get dlk_L_type 2 rfl rfl
theorem dk_L_type_3 : tvD cL_type 3 (.iload_n 1) 1 4 := tvDl_get dlk_L_type 3 rfl rfl
theorem dk_L_type_4 : tvD cL_type 4 (.invokevirtual 118) 3 7 := tvDl_get dlk_L_type 4 rfl rfl
theorem dk_L_type_7 : tvD cL_type 7 (.i2l) 1 8 := tvDl_get dlk_L_type 5 rfl rfl
theorem dk_L_type_8 : tvD cL_type 8 (.lastore) 1 9 := tvDl_get dlk_L_type 6 rfl rfl
theorem dk_L_type_9 : tvJ cL_type 9 .goto 15 12 := tvJl_get dlk_L_type 7 rfl (by decide) rfl
theorem dk_L_type_12 : tvD cL_type 12 (.astore_n 3) 1 13 := tvDl_get dlk_L_type 8 rfl rfl
theorem dk_L_type_13 : tvD cL_type 13 (.iconst 1) 1 14 := tvDl_get dlk_L_type 9 rfl rfl
theorem dk_L_type_14 : tvD cL_type 14 (.ireturn) 1 15 := tvDl_get dlk_L_type 10 rfl rfl
theorem dk_L_type_15 : tvD cL_type 15 (.iconst 0) 1 16 := tvDl_get dlk_L_type 11 rfl rfl
theorem dk_L_type_16 : tvD cL_type 16 (.ireturn) 1 17 := tvDl_get dlk_L_type 12 rfl rfl
def dl_L_undo : List (Nat × Instr × Nat) := [(0, .aload_n 1, 1), (1, .iconst 0, 1), (2, .aload_n 0, 1), (3, .invokevirtual 136, 3), (6, .i2l, 1), (7, .lastore, 1), (8, .goto 6, 3), (11, .astore_n 2, 1), (12, .iconst 1, 1), (13, .ireturn, 1), (14, .iconst 0, 1), (15, .ireturn, 1)]
theorem dlk_L_undo : tvDl cL_undo dl_L_undo = true := by decide +kernel
theorem dk_L_undo_0 : tvD cL_undo 0 (.aload_n 1) 1 1 := tvDl_get dlk_L_undo 0 rfl rfl
theorem dk_L_undo_1 : tvD cL_undo 1 (.iconst 0) 1 2 := tvDl_get dlk_L_undo 1 rfl rfl
theorem dk_L_undo_2 : tvD cL_undo 2 (.aload_n 0) 1 3 := tvDl_get dlk_L_undo 2 rfl rfl
theorem dk_L_undo_3 : tvD cL_undo 3 (.invokevirtual 136) 3 6 := tvDl_get dlk_L_undo 3 rfl rfl
theorem dk_L_undo_6 : tvD cL_undo 6 (.i2l) 1 7 := tvDl_get dlk_L_undo 4 rfl rfl
theorem dk_L_undo_7 : tvD cL_undo 7 (.lastore) 1 8 := tvDl_get dlk_L_undo 5 rfl rfl
theorem dk_L_undo_8 : tvJ cL_undo 8 .goto 14 11 := tvJl_get dlk_L_undo 6 rfl (by decide) rfl
theorem dk_L_undo_11 : tvD cL_undo 11 (.astore_n 2) 1 12 := tvDl_get dlk_L_undo 7 rfl rfl
theorem dk_L_undo_12 : tvD cL_undo 12 (.iconst 1) 1 13 := tvDl_get dlk_L_undo 8 rfl rfl
theorem dk_L_undo_13 : tvD cL_undo 13 (.ireturn) 1 14 := tvDl_get dlk_L_undo 9 rfl rfl
theorem dk_L_undo_14 : tvD cL_undo 14 (.iconst 0) 1 15 := tvDl_get dlk_L_undo 10 rfl rfl
theorem dk_L_undo_15 : tvD cL_undo 15 (.ireturn) 1 16 := tvDl_get dlk_L_undo 11 rfl rfl
def dl_L_wasWrongCode : List (Nat × Instr × Nat) := [(0, .aload_n 1, 1), (1, .iconst 0, 1), (2, .aload_n 0, 1), (3, .invokevirtual 132, 3), (6, .ifCond .eq 7, 3), (9, .lconst 1, 1), (10, .goto 4, 3), (13, .lconst 0, 1), (14, .lastore, 1), (15, .goto 6, 3), (18, .astore_n 2, 1), (19, .iconst 1, 1), (20, .ireturn, 1), (21, .iconst 0, 1), (22, .ireturn, 1)]
theorem dlk_L_wasWrongCode : tvDl cL_wasWrongCode dl_L_wasWrongCode = true := by decide +kernel
theorem dk_L_wasWrongCode_0 : tvD cL_wasWrongCode 0 (.aload_n 1) 1 1 := tvDl_get dlk_L_wasWrongCode 0 rfl rfl
theorem dk_L_wasWrongCode_1 : tvD cL_wasWrongCode 1 (.iconst 0) 1 2 := tvDl_get dlk_L_wasWrongCode 1 rfl rfl
theorem dk_L_wasWrongCode_2 : tvD cL_wasWrongCode 2 (.aload_n 0) 1 3 := tvDl_get dlk_L_wasWrongCode 2 rfl rfl
theorem dk_L_wasWrongCode_3 : tvD cL_wasWrongCode 3 (.invokevirtual 132) 3 6 := tvDl_get dlk_L_wasWrongCode 3 rfl rfl
theorem dk_L_wasWrongCode_6 : tvJ cL_wasWrongCode 6 (.ifCond .eq) 13 9 := tvJl_get dlk_L_wasWrongCode 4 rfl (by decide) rfl
theorem dk_L_wasWrongCode_9 : tvD cL_wasWrongCode 9 (.lconst 1) 1 10 := tvDl_get dlk_L_wasWrongCode 5 rfl rfl
theorem dk_L_wasWrongCode_10 : tvJ cL_wasWrongCode 10 .goto 14 13 := tvJl_get dlk_L_wasWrongCode 6 rfl (by decide) rfl
theorem dk_L_wasWrongCode_13 : tvD cL_wasWrongCode 13 (.lconst 0) 1 14 := tvDl_get dlk_L_wasWrongCode 7 rfl rfl
theorem dk_L_wasWrongCode_14 : tvD cL_wasWrongCode 14 (.lastore) 1 15 := tvDl_get dlk_L_wasWrongCode 8 rfl rfl
theorem dk_L_wasWrongCode_15 : tvJ cL_wasWrongCode 15 .goto 21 18 := tvJl_get dlk_L_wasWrongCode 9 rfl (by decide) rfl
theorem dk_L_wasWrongCode_18 : tvD cL_wasWrongCode 18 (.astore_n 2) 1 19 := tvDl_get dlk_L_wasWrongCode 10 rfl rfl
theorem dk_L_wasWrongCode_19 : tvD cL_wasWrongCode 19 (.iconst 1) 1 20 := tvDl_get dlk_L_wasWrongCode 11 rfl rfl
theorem dk_L_wasWrongCode_20 : tvD cL_wasWrongCode 20 (.ireturn) 1 21 := tvDl_get dlk_L_wasWrongCode 12 rfl rfl
theorem dk_L_wasWrongCode_21 : tvD cL_wasWrongCode 21 (.iconst 0) 1 22 := tvDl_get dlk_L_wasWrongCode 13 rfl rfl
theorem dk_L_wasWrongCode_22 : tvD cL_wasWrongCode 22 (.ireturn) 1 23 := tvDl_get dlk_L_wasWrongCode 14 rfl rfl
def dl_L_withdraw : List (Nat × Instr × Nat) := [(0, .aload_n 2, 1), (1, .iconst 0, 1), (2, .aload_n 0, 1), (3, .iload_n 1, 1), (4, .invokevirtual 39, 3), (7, .i2l, 1), (8, .lastore, 1), (9, .goto 12, 3), (12, .astore_n 3, 1), (13, .iconst 1, 1), (14, .ireturn, 1), (15, .astore_n 3, 1), (16, .iconst 2, 1), (17, .ireturn, 1), (18, .astore_n 3, 1), (19, .iconst 3, 1), (20, .ireturn, 1), (21, .iconst 0, 1), (22, .ireturn, 1)]
theorem dlk_L_withdraw : tvDl cL_withdraw dl_L_withdraw = true := by decide +kernel
theorem dk_L_withdraw_0 : tvD cL_withdraw 0 (.aload_n 2) 1 1 := tvDl_get dlk_L_withdraw 0 rfl rfl
theorem dk_L_withdraw_1 : tvD cL_withdraw 1 (.iconst 0) 1 2 := tvDl_get dlk_L_withdraw 1 rfl rfl
theorem dk_L_withdraw_2 : tvD cL_withdraw 2 (.aload_n 0) 1 3 := tvDl_get dlk_L_withdraw 2 rfl rfl
theorem dk_L_withdraw_3 : tvD cL_withdraw 3 (.iload_n 1) 1 4 := tvDl_get dlk_L_withdraw 3 rfl rfl
theorem dk_L_withdraw_4 : tvD cL_withdraw 4 (.invokevirtual 39) 3 7 := tvDl_get dlk_L_withdraw 4 rfl rfl
theorem dk_L_withdraw_7 : tvD cL_withdraw 7 (.i2l) 1 8 := tvDl_get dlk_L_withdraw 5 rfl rfl
theorem dk_L_withdraw_8 : tvD cL_withdraw 8 (.lastore) 1 9 := tvDl_get dlk_L_withdraw 6 rfl rfl
theorem dk_L_withdraw_9 : tvJ cL_withdraw 9 .goto 21 12 := tvJl_get dlk_L_withdraw 7 rfl (by decide) rfl
theorem dk_L_withdraw_12 : tvD cL_withdraw 12 (.astore_n 3) 1 13 := tvDl_get dlk_L_withdraw 8 rfl rfl
theorem dk_L_withdraw_13 : tvD cL_withdraw 13 (.iconst 1) 1 14 := tvDl_get dlk_L_withdraw 9 rfl rfl
theorem dk_L_withdraw_14 : tvD cL_withdraw 14 (.ireturn) 1 15 := tvDl_get dlk_L_withdraw 10 rfl rfl
theorem dk_L_withdraw_15 : tvD cL_withdraw 15 (.astore_n 3) 1 16 := tvDl_get dlk_L_withdraw 11 rfl rfl
theorem dk_L_withdraw_16 : tvD cL_withdraw 16 (.iconst 2) 1 17 := tvDl_get dlk_L_withdraw 12 rfl rfl
theorem dk_L_withdraw_17 : tvD cL_withdraw 17 (.ireturn) 1 18 := tvDl_get dlk_L_withdraw 13 rfl rfl
theorem dk_L_withdraw_18 : tvD cL_withdraw 18 (.astore_n 3) 1 19 := tvDl_get dlk_L_withdraw 14 rfl rfl
theorem dk_L_withdraw_19 : tvD cL_withdraw 19 (.iconst 3) 1 20 := tvDl_get dlk_L_withdraw 15 rfl rfl
theorem dk_L_withdraw_20 : tvD cL_withdraw 20 (.ireturn) 1 21 := tvDl_get dlk_L_withdraw 16 rfl rfl
theorem dk_L_withdraw_21 : tvD cL_withdraw 21 (.iconst 0) 1 22 := tvDl_get dlk_L_withdraw 17 rfl rfl
theorem dk_L_withdraw_22 : tvD cL_withdraw 22 (.ireturn) 1 23 := tvDl_get dlk_L_withdraw 18 rfl rfl
def dl_L_writeBox : List (Nat × Instr × Nat) := [(0, .aload_n 2, 1), (1, .iconst 0, 1), (2, .aload_n 0, 1), (3, .iload_n 1, 1), (4, .invokevirtual 112, 3), (7, .i2l, 1), (8, .lastore, 1), (9, .goto 6, 3), (12, .astore_n 3, 1), (13, .iconst 1, 1), (14, .ireturn, 1), (15, .iconst 0, 1), (16, .ireturn, 1)]
theorem dlk_L_writeBox : tvDl cL_writeBox dl_L_writeBox = true := by decide +kernel
theorem dk_L_writeBox_0 : tvD cL_writeBox 0 (.aload_n 2) 1 1 := tvDl_get dlk_L_writeBox 0 rfl rfl
theorem dk_L_writeBox_1 : tvD cL_writeBox 1 (.iconst 0) 1 2 := tvDl_get dlk_L_writeBox 1 rfl rfl
theorem dk_L_writeBox_2 : tvD cL_writeBox 2 (.aload_n 0) 1 3 := tvDl_get dlk_L_writeBox 2 rfl rfl
theorem dk_L_writeBox_3 : tvD cL_writeBox 3 (.iload_n 1) 1 4 := tvDl_get dlk_L_writeBox 3 rfl rfl
theorem dk_L_writeBox_4 : tvD cL_writeBox 4 (.invokevirtual 112) 3 7 := tvDl_get dlk_L_writeBox 4 rfl rfl
theorem dk_L_writeBox_7 : tvD cL_writeBox 7 (.i2l) 1 8 := tvDl_get dlk_L_writeBox 5 rfl rfl
theorem dk_L_writeBox_8 : tvD cL_writeBox 8 (.lastore) 1 9 := tvDl_get dlk_L_writeBox 6 rfl rfl
theorem dk_L_writeBox_9 : tvJ cL_writeBox 9 .goto 15 12 := tvJl_get dlk_L_writeBox 7 rfl (by decide) rfl
theorem dk_L_writeBox_12 : tvD cL_writeBox 12 (.astore_n 3) 1 13 := tvDl_get dlk_L_writeBox 8 rfl rfl
theorem dk_L_writeBox_13 : tvD cL_writeBox 13 (.iconst 1) 1 14 := tvDl_get dlk_L_writeBox 9 rfl rfl
theorem dk_L_writeBox_14 : tvD cL_writeBox 14 (.ireturn) 1 15 := tvDl_get dlk_L_writeBox 10 rfl rfl
theorem dk_L_writeBox_15 : tvD cL_writeBox 15 (.iconst 0) 1 16 := tvDl_get dlk_L_writeBox 11 rfl rfl
theorem dk_L_writeBox_16 : tvD cL_writeBox 16 (.ireturn) 1 17 := tvDl_get dlk_L_writeBox 12 rfl rfl
abbrev hh_L_addHolder : List (Nat × Nat × Nat × Nat) := [(0, 9, 12, 13), (0, 9, 15, 15)]
theorem yw_L_addHolder : tvYw yL_addHolder cL_addHolder 4 (some .int) hh_L_addHolder 3 := ⟨tvgc (tvc_2 (List.mem_of_getElem? (i := 231) (by decide +kernel))) rfl, tvgc (tvc_1 (List.mem_of_getElem? (i := 0) (by decide +kernel))) rfl, by decide +kernel, by decide +kernel, by decide +kernel⟩
theorem yi_L_addHolder : Cond.static yL_addHolder ∈ tvGW := tvgc (tvc_2 (List.mem_of_getElem? (i := 230) (by decide +kernel))) rfl
theorem cl_RL_13 : Cond.classLink RL 13 "java/lang/IllegalArgumentException" ∈ tvGW := tvgc (tvc_2 (List.mem_of_getElem? (i := 232) (by decide +kernel))) rfl
theorem ct_1 : Cond.castable "java/lang/IllegalArgumentException" "java/lang/IllegalArgumentException" ∈ tvNest := tvn 639 (by decide +kernel) rfl
theorem cl_RL_15 : Cond.classLink RL 15 "java/lang/IllegalStateException" ∈ tvGW := tvgc (tvc_2 (List.mem_of_getElem? (i := 233) (by decide +kernel))) rfl
theorem ct_2 : Cond.castable "java/lang/IllegalStateException" "java/lang/IllegalStateException" ∈ tvNest := tvn 655 (by decide +kernel) rfl
abbrev hh_L_addBox : List (Nat × Nat × Nat × Nat) := [(0, 12, 15, 21), (0, 12, 19, 13), (0, 12, 23, 15)]
theorem yw_L_addBox : tvYw yL_addBox cL_addBox 6 (some .int) hh_L_addBox 5 := ⟨tvgc (tvc_3 (List.mem_of_getElem? (i := 168) (by decide +kernel))) rfl, tvgc (tvc_1 (List.mem_of_getElem? (i := 0) (by decide +kernel))) rfl, by decide +kernel, by decide +kernel, by decide +kernel⟩
theorem yi_L_addBox : Cond.static yL_addBox ∈ tvGW := tvgc (tvc_3 (List.mem_of_getElem? (i := 167) (by decide +kernel))) rfl
theorem cl_RL_21 : Cond.classLink RL 21 "java/lang/IndexOutOfBoundsException" ∈ tvGW := tvgc (tvc_3 (List.mem_of_getElem? (i := 169) (by decide +kernel))) rfl
theorem ct_0 : Cond.castable "java/lang/IndexOutOfBoundsException" "java/lang/IndexOutOfBoundsException" ∈ tvNest := tvn 567 (by decide +kernel) rfl
abbrev hh_L_setTide : List (Nat × Nat × Nat × Nat) := [(0, 10, 13, 13)]
theorem yw_L_setTide : tvYw yL_setTide cL_setTide 5 (some .int) hh_L_setTide 4 := ⟨tvgc (tvc_3 (List.mem_of_getElem? (i := 208) (by decide +kernel))) rfl, tvgc (tvc_1 (List.mem_of_getElem? (i := 0) (by decide +kernel))) rfl, by decide +kernel, by decide +kernel, by decide +kernel⟩
theorem yi_L_setTide : Cond.static yL_setTide ∈ tvGW := tvgc (tvc_3 (List.mem_of_getElem? (i := 207) (by decide +kernel))) rfl
abbrev hh_L_turnKey : List (Nat × Nat × Nat × Nat) := [(0, 12, 15, 21), (0, 12, 19, 13), (0, 12, 23, 15), (0, 12, 27, 31)]
theorem yw_L_turnKey : tvYw yL_turnKey cL_turnKey 6 (some .int) hh_L_turnKey 5 := ⟨tvgc (tvc_3 (List.mem_of_getElem? (i := 223) (by decide +kernel))) rfl, tvgc (tvc_1 (List.mem_of_getElem? (i := 0) (by decide +kernel))) rfl, by decide +kernel, by decide +kernel, by decide +kernel⟩
theorem yi_L_turnKey : Cond.static yL_turnKey ∈ tvGW := tvgc (tvc_3 (List.mem_of_getElem? (i := 222) (by decide +kernel))) rfl
theorem cl_RL_31 : Cond.classLink RL 31 "java/lang/UnsupportedOperationException" ∈ tvGW := tvgc (tvc_3 (List.mem_of_getElem? (i := 224) (by decide +kernel))) rfl
theorem ct_3 : Cond.castable "java/lang/UnsupportedOperationException" "java/lang/UnsupportedOperationException" ∈ tvNest := tvn 671 (by decide +kernel) rfl
abbrev hh_L_changeCode : List (Nat × Nat × Nat × Nat) := [(0, 12, 15, 21), (0, 12, 19, 13), (0, 12, 23, 15), (0, 12, 27, 31)]
theorem yw_L_changeCode : tvYw yL_changeCode cL_changeCode 6 (some .int) hh_L_changeCode 5 := ⟨tvgc (tvc_4 (List.mem_of_getElem? (i := 66) (by decide +kernel))) rfl, tvgc (tvc_1 (List.mem_of_getElem? (i := 0) (by decide +kernel))) rfl, by decide +kernel, by decide +kernel, by decide +kernel⟩
theorem yi_L_changeCode : Cond.static yL_changeCode ∈ tvGW := tvgc (tvc_4 (List.mem_of_getElem? (i := 65) (by decide +kernel))) rfl
abbrev hh_L_deposit : List (Nat × Nat × Nat × Nat) := [(0, 10, 13, 21), (0, 10, 17, 13), (0, 10, 21, 15)]
theorem yw_L_deposit : tvYw yL_deposit cL_deposit 5 (some .int) hh_L_deposit 4 := ⟨tvgc (tvc_4 (List.mem_of_getElem? (i := 85) (by decide +kernel))) rfl, tvgc (tvc_1 (List.mem_of_getElem? (i := 0) (by decide +kernel))) rfl, by decide +kernel, by decide +kernel, by decide +kernel⟩
theorem yi_L_deposit : Cond.static yL_deposit ∈ tvGW := tvgc (tvc_4 (List.mem_of_getElem? (i := 84) (by decide +kernel))) rfl
abbrev hh_L_withdraw : List (Nat × Nat × Nat × Nat) := [(0, 9, 12, 21), (0, 9, 15, 15), (0, 9, 18, 42)]
theorem yw_L_withdraw : tvYw yL_withdraw cL_withdraw 4 (some .int) hh_L_withdraw 3 := ⟨tvgc (tvc_4 (List.mem_of_getElem? (i := 112) (by decide +kernel))) rfl, tvgc (tvc_1 (List.mem_of_getElem? (i := 0) (by decide +kernel))) rfl, by decide +kernel, by decide +kernel, by decide +kernel⟩
theorem yi_L_withdraw : Cond.static yL_withdraw ∈ tvGW := tvgc (tvc_4 (List.mem_of_getElem? (i := 111) (by decide +kernel))) rfl
theorem cl_RL_42 : Cond.classLink RL 42 "java/util/NoSuchElementException" ∈ tvGW := tvgc (tvc_4 (List.mem_of_getElem? (i := 113) (by decide +kernel))) rfl
theorem ct_4 : Cond.castable "java/util/NoSuchElementException" "java/util/NoSuchElementException" ∈ tvNest := tvn 687 (by decide +kernel) rfl
abbrev hh_L_close : List (Nat × Nat × Nat × Nat) := [(0, 9, 12, 21), (0, 9, 15, 15)]
theorem yw_L_close : tvYw yL_close cL_close 4 (some .int) hh_L_close 3 := ⟨tvgc (tvc_4 (List.mem_of_getElem? (i := 132) (by decide +kernel))) rfl, tvgc (tvc_1 (List.mem_of_getElem? (i := 0) (by decide +kernel))) rfl, by decide +kernel, by decide +kernel, by decide +kernel⟩
theorem yi_L_close : Cond.static yL_close ∈ tvGW := tvgc (tvc_4 (List.mem_of_getElem? (i := 131) (by decide +kernel))) rfl
abbrev hh_L_pass : List (Nat × Nat × Nat × Nat) := [(0, 9, 12, 13)]
theorem yw_L_pass : tvYw yL_pass cL_pass 4 (some .int) hh_L_pass 3 := ⟨tvgc (tvc_4 (List.mem_of_getElem? (i := 144) (by decide +kernel))) rfl, tvgc (tvc_1 (List.mem_of_getElem? (i := 0) (by decide +kernel))) rfl, by decide +kernel, by decide +kernel, by decide +kernel⟩
theorem yi_L_pass : Cond.static yL_pass ∈ tvGW := tvgc (tvc_4 (List.mem_of_getElem? (i := 143) (by decide +kernel))) rfl
abbrev hh_L_lowMinutes : List (Nat × Nat × Nat × Nat) := [(0, 9, 12, 13)]
theorem yw_L_lowMinutes : tvYw yL_lowMinutes cL_lowMinutes 4 (some .int) hh_L_lowMinutes 3 := ⟨tvgc (tvc_4 (List.mem_of_getElem? (i := 160) (by decide +kernel))) rfl, tvgc (tvc_1 (List.mem_of_getElem? (i := 0) (by decide +kernel))) rfl, by decide +kernel, by decide +kernel, by decide +kernel⟩
theorem yi_L_lowMinutes : Cond.static yL_lowMinutes ∈ tvGW := tvgc (tvc_4 (List.mem_of_getElem? (i := 159) (by decide +kernel))) rfl
abbrev hh_L_lowMinutesByCounting : List (Nat × Nat × Nat × Nat) := [(0, 9, 12, 13)]
theorem yw_L_lowMinutesByCounting : tvYw yL_lowMinutesByCounting cL_lowMinutesByCounting 4 (some .int) hh_L_lowMinutesByCounting 3 := ⟨tvgc (tvc_4 (List.mem_of_getElem? (i := 172) (by decide +kernel))) rfl, tvgc (tvc_1 (List.mem_of_getElem? (i := 0) (by decide +kernel))) rfl, by decide +kernel, by decide +kernel, by decide +kernel⟩
theorem yi_L_lowMinutesByCounting : Cond.static yL_lowMinutesByCounting ∈ tvGW := tvgc (tvc_4 (List.mem_of_getElem? (i := 171) (by decide +kernel))) rfl
abbrev hh_L_attempts : List (Nat × Nat × Nat × Nat) := [(0, 9, 12, 21)]
theorem yw_L_attempts : tvYw yL_attempts cL_attempts 4 (some .int) hh_L_attempts 3 := ⟨tvgc (tvc_4 (List.mem_of_getElem? (i := 180) (by decide +kernel))) rfl, tvgc (tvc_1 (List.mem_of_getElem? (i := 0) (by decide +kernel))) rfl, by decide +kernel, by decide +kernel, by decide +kernel⟩
theorem yi_L_attempts : Cond.static yL_attempts ∈ tvGW := tvgc (tvc_4 (List.mem_of_getElem? (i := 179) (by decide +kernel))) rfl
abbrev hh_L_minutesLocked : List (Nat × Nat × Nat × Nat) := [(0, 9, 12, 21)]
theorem yw_L_minutesLocked : tvYw yL_minutesLocked cL_minutesLocked 4 (some .int) hh_L_minutesLocked 3 := ⟨tvgc (tvc_4 (List.mem_of_getElem? (i := 193) (by decide +kernel))) rfl, tvgc (tvc_1 (List.mem_of_getElem? (i := 0) (by decide +kernel))) rfl, by decide +kernel, by decide +kernel, by decide +kernel⟩
theorem yi_L_minutesLocked : Cond.static yL_minutesLocked ∈ tvGW := tvgc (tvc_4 (List.mem_of_getElem? (i := 192) (by decide +kernel))) rfl
abbrev hh_L_boxesOf : List (Nat × Nat × Nat × Nat) := [(0, 9, 12, 21)]
theorem yw_L_boxesOf : tvYw yL_boxesOf cL_boxesOf 4 (some .int) hh_L_boxesOf 3 := ⟨tvgc (tvc_4 (List.mem_of_getElem? (i := 201) (by decide +kernel))) rfl, tvgc (tvc_1 (List.mem_of_getElem? (i := 0) (by decide +kernel))) rfl, by decide +kernel, by decide +kernel, by decide +kernel⟩
theorem yi_L_boxesOf : Cond.static yL_boxesOf ∈ tvGW := tvgc (tvc_4 (List.mem_of_getElem? (i := 200) (by decide +kernel))) rfl
abbrev hh_L_otherHolder : List (Nat × Nat × Nat × Nat) := [(0, 10, 13, 21), (0, 10, 17, 13)]
theorem yw_L_otherHolder : tvYw yL_otherHolder cL_otherHolder 5 (some .int) hh_L_otherHolder 4 := ⟨tvgc (tvc_4 (List.mem_of_getElem? (i := 213) (by decide +kernel))) rfl, tvgc (tvc_1 (List.mem_of_getElem? (i := 0) (by decide +kernel))) rfl, by decide +kernel, by decide +kernel, by decide +kernel⟩
theorem yi_L_otherHolder : Cond.static yL_otherHolder ∈ tvGW := tvgc (tvc_4 (List.mem_of_getElem? (i := 212) (by decide +kernel))) rfl
abbrev hh_L_status : List (Nat × Nat × Nat × Nat) := [(0, 9, 12, 21)]
theorem yw_L_status : tvYw yL_status cL_status 4 (some .int) hh_L_status 3 := ⟨tvgc (tvc_4 (List.mem_of_getElem? (i := 231) (by decide +kernel))) rfl, tvgc (tvc_1 (List.mem_of_getElem? (i := 0) (by decide +kernel))) rfl, by decide +kernel, by decide +kernel, by decide +kernel⟩
theorem yi_L_status : Cond.static yL_status ∈ tvGW := tvgc (tvc_4 (List.mem_of_getElem? (i := 230) (by decide +kernel))) rfl
abbrev hh_L_firstHolder : List (Nat × Nat × Nat × Nat) := [(0, 9, 12, 21), (0, 9, 15, 42)]
theorem yw_L_firstHolder : tvYw yL_firstHolder cL_firstHolder 4 (some .int) hh_L_firstHolder 3 := ⟨tvgc (tvc_4 (List.mem_of_getElem? (i := 239) (by decide +kernel))) rfl, tvgc (tvc_1 (List.mem_of_getElem? (i := 0) (by decide +kernel))) rfl, by decide +kernel, by decide +kernel, by decide +kernel⟩
theorem yi_L_firstHolder : Cond.static yL_firstHolder ∈ tvGW := tvgc (tvc_4 (List.mem_of_getElem? (i := 238) (by decide +kernel))) rfl
abbrev hh_L_remainingDelay : List (Nat × Nat × Nat × Nat) := [(0, 9, 12, 21), (0, 9, 15, 42)]
theorem yw_L_remainingDelay : tvYw yL_remainingDelay cL_remainingDelay 4 (some .int) hh_L_remainingDelay 3 := ⟨tvgc (tvc_5 (List.mem_of_getElem? (i := 11) (by decide +kernel))) rfl, tvgc (tvc_1 (List.mem_of_getElem? (i := 0) (by decide +kernel))) rfl, by decide +kernel, by decide +kernel, by decide +kernel⟩
theorem yi_L_remainingDelay : Cond.static yL_remainingDelay ∈ tvGW := tvgc (tvc_5 (List.mem_of_getElem? (i := 10) (by decide +kernel))) rfl
abbrev hh_L_minutesUntilOpen : List (Nat × Nat × Nat × Nat) := [(0, 9, 12, 21), (0, 9, 15, 42)]
theorem yw_L_minutesUntilOpen : tvYw yL_minutesUntilOpen cL_minutesUntilOpen 4 (some .int) hh_L_minutesUntilOpen 3 := ⟨tvgc (tvc_5 (List.mem_of_getElem? (i := 19) (by decide +kernel))) rfl, tvgc (tvc_1 (List.mem_of_getElem? (i := 0) (by decide +kernel))) rfl, by decide +kernel, by decide +kernel, by decide +kernel⟩
theorem yi_L_minutesUntilOpen : Cond.static yL_minutesUntilOpen ∈ tvGW := tvgc (tvc_5 (List.mem_of_getElem? (i := 18) (by decide +kernel))) rfl
abbrev hh_L_minutesUntilOpenBySimulation : List (Nat × Nat × Nat × Nat) := [(0, 9, 12, 21), (0, 9, 15, 42)]
theorem yw_L_minutesUntilOpenBySimulation : tvYw yL_minutesUntilOpenBySimulation cL_minutesUntilOpenBySimulation 4 (some .int) hh_L_minutesUntilOpenBySimulation 3 := ⟨tvgc (tvc_5 (List.mem_of_getElem? (i := 26) (by decide +kernel))) rfl, tvgc (tvc_1 (List.mem_of_getElem? (i := 0) (by decide +kernel))) rfl, by decide +kernel, by decide +kernel, by decide +kernel⟩
theorem yi_L_minutesUntilOpenBySimulation : Cond.static yL_minutesUntilOpenBySimulation ∈ tvGW := tvgc (tvc_5 (List.mem_of_getElem? (i := 25) (by decide +kernel))) rfl
abbrev hh_L_pearls : List (Nat × Nat × Nat × Nat) := [(0, 9, 12, 21)]
theorem yw_L_pearls : tvYw yL_pearls cL_pearls 4 (some .int) hh_L_pearls 3 := ⟨tvgc (tvc_5 (List.mem_of_getElem? (i := 38) (by decide +kernel))) rfl, tvgc (tvc_1 (List.mem_of_getElem? (i := 0) (by decide +kernel))) rfl, by decide +kernel, by decide +kernel, by decide +kernel⟩
theorem yi_L_pearls : Cond.static yL_pearls ∈ tvGW := tvgc (tvc_5 (List.mem_of_getElem? (i := 37) (by decide +kernel))) rfl
abbrev hh_L_pearl : List (Nat × Nat × Nat × Nat) := [(0, 10, 13, 21), (0, 10, 17, 42)]
theorem yw_L_pearl : tvYw yL_pearl cL_pearl 5 (some .int) hh_L_pearl 4 := ⟨tvgc (tvc_5 (List.mem_of_getElem? (i := 46) (by decide +kernel))) rfl, tvgc (tvc_1 (List.mem_of_getElem? (i := 0) (by decide +kernel))) rfl, by decide +kernel, by decide +kernel, by decide +kernel⟩
theorem yi_L_pearl : Cond.static yL_pearl ∈ tvGW := tvgc (tvc_5 (List.mem_of_getElem? (i := 45) (by decide +kernel))) rfl
abbrev hh_L_boxByValue : List (Nat × Nat × Nat × Nat) := [(0, 9, 12, 42)]
theorem yw_L_boxByValue : tvYw yL_boxByValue cL_boxByValue 4 (some .int) hh_L_boxByValue 3 := ⟨tvgc (tvc_5 (List.mem_of_getElem? (i := 55) (by decide +kernel))) rfl, tvgc (tvc_1 (List.mem_of_getElem? (i := 0) (by decide +kernel))) rfl, by decide +kernel, by decide +kernel, by decide +kernel⟩
theorem yi_L_boxByValue : Cond.static yL_boxByValue ∈ tvGW := tvgc (tvc_5 (List.mem_of_getElem? (i := 54) (by decide +kernel))) rfl
abbrev hh_L_meanValue : List (Nat × Nat × Nat × Nat) := [(0, 7, 10, 97)]
theorem yw_L_meanValue : tvYw yL_meanValue cL_meanValue 3 (some .int) hh_L_meanValue 2 := ⟨tvgc (tvc_5 (List.mem_of_getElem? (i := 71) (by decide +kernel))) rfl, tvgc (tvc_1 (List.mem_of_getElem? (i := 0) (by decide +kernel))) rfl, by decide +kernel, by decide +kernel, by decide +kernel⟩
theorem yi_L_meanValue : Cond.static yL_meanValue ∈ tvGW := tvgc (tvc_5 (List.mem_of_getElem? (i := 70) (by decide +kernel))) rfl
theorem cl_RL_97 : Cond.classLink RL 97 "java/lang/ArithmeticException" ∈ tvGW := tvgc (tvc_5 (List.mem_of_getElem? (i := 72) (by decide +kernel))) rfl
theorem ct_5 : Cond.castable "java/lang/ArithmeticException" "java/lang/ArithmeticException" ∈ tvNest := tvn 1120 (by decide +kernel) rfl
abbrev hh_L_failureRate : List (Nat × Nat × Nat × Nat) := [(0, 8, 11, 97)]
theorem yw_L_failureRate : tvYw yL_failureRate cL_failureRate 3 (some .int) hh_L_failureRate 2 := ⟨tvgc (tvc_5 (List.mem_of_getElem? (i := 99) (by decide +kernel))) rfl, tvgc (tvc_1 (List.mem_of_getElem? (i := 0) (by decide +kernel))) rfl, by decide +kernel, by decide +kernel, by decide +kernel⟩
theorem yi_L_failureRate : Cond.static yL_failureRate ∈ tvGW := tvgc (tvc_5 (List.mem_of_getElem? (i := 98) (by decide +kernel))) rfl
abbrev hh_L_eventKind : List (Nat × Nat × Nat × Nat) := [(0, 9, 12, 42)]
theorem yw_L_eventKind : tvYw yL_eventKind cL_eventKind 4 (some .int) hh_L_eventKind 3 := ⟨tvgc (tvc_5 (List.mem_of_getElem? (i := 107) (by decide +kernel))) rfl, tvgc (tvc_1 (List.mem_of_getElem? (i := 0) (by decide +kernel))) rfl, by decide +kernel, by decide +kernel, by decide +kernel⟩
theorem yi_L_eventKind : Cond.static yL_eventKind ∈ tvGW := tvgc (tvc_5 (List.mem_of_getElem? (i := 106) (by decide +kernel))) rfl
abbrev hh_L_eventTime : List (Nat × Nat × Nat × Nat) := [(0, 9, 12, 42)]
theorem yw_L_eventTime : tvYw yL_eventTime cL_eventTime 4 (some .int) hh_L_eventTime 3 := ⟨tvgc (tvc_5 (List.mem_of_getElem? (i := 122) (by decide +kernel))) rfl, tvgc (tvc_1 (List.mem_of_getElem? (i := 0) (by decide +kernel))) rfl, by decide +kernel, by decide +kernel, by decide +kernel⟩
theorem yi_L_eventTime : Cond.static yL_eventTime ∈ tvGW := tvgc (tvc_5 (List.mem_of_getElem? (i := 121) (by decide +kernel))) rfl
abbrev hh_L_eventNumber : List (Nat × Nat × Nat × Nat) := [(0, 9, 12, 42)]
theorem yw_L_eventNumber : tvYw yL_eventNumber cL_eventNumber 4 (some .int) hh_L_eventNumber 3 := ⟨tvgc (tvc_5 (List.mem_of_getElem? (i := 133) (by decide +kernel))) rfl, tvgc (tvc_1 (List.mem_of_getElem? (i := 0) (by decide +kernel))) rfl, by decide +kernel, by decide +kernel, by decide +kernel⟩
theorem yi_L_eventNumber : Cond.static yL_eventNumber ∈ tvGW := tvgc (tvc_5 (List.mem_of_getElem? (i := 132) (by decide +kernel))) rfl
abbrev hh_L_writeBox : List (Nat × Nat × Nat × Nat) := [(0, 9, 12, 21)]
theorem yw_L_writeBox : tvYw yL_writeBox cL_writeBox 4 (some .int) hh_L_writeBox 3 := ⟨tvgc (tvc_5 (List.mem_of_getElem? (i := 140) (by decide +kernel))) rfl, tvgc (tvc_1 (List.mem_of_getElem? (i := 0) (by decide +kernel))) rfl, by decide +kernel, by decide +kernel, by decide +kernel⟩
theorem yi_L_writeBox : Cond.static yL_writeBox ∈ tvGW := tvgc (tvc_5 (List.mem_of_getElem? (i := 139) (by decide +kernel))) rfl
abbrev hh_L_charAt : List (Nat × Nat × Nat × Nat) := [(0, 9, 12, 21)]
theorem yw_L_charAt : tvYw yL_charAt cL_charAt 4 (some .int) hh_L_charAt 3 := ⟨tvgc (tvc_5 (List.mem_of_getElem? (i := 147) (by decide +kernel))) rfl, tvgc (tvc_1 (List.mem_of_getElem? (i := 0) (by decide +kernel))) rfl, by decide +kernel, by decide +kernel, by decide +kernel⟩
theorem yi_L_charAt : Cond.static yL_charAt ∈ tvGW := tvgc (tvc_5 (List.mem_of_getElem? (i := 146) (by decide +kernel))) rfl
abbrev hh_L_type : List (Nat × Nat × Nat × Nat) := [(0, 9, 12, 15)]
theorem yw_L_type : tvYw yL_type cL_type 4 (some .int) hh_L_type 3 := ⟨tvgc (tvc_5 (List.mem_of_getElem? (i := 159) (by decide +kernel))) rfl, tvgc (tvc_1 (List.mem_of_getElem? (i := 0) (by decide +kernel))) rfl, by decide +kernel, by decide +kernel, by decide +kernel⟩
theorem yi_L_type : Cond.static yL_type ∈ tvGW := tvgc (tvc_5 (List.mem_of_getElem? (i := 158) (by decide +kernel))) rfl
abbrev hh_L_run : List (Nat × Nat × Nat × Nat) := [(0, 8, 11, 13), (0, 8, 14, 31)]
theorem yw_L_run : tvYw yL_run cL_run 3 (some .int) hh_L_run 2 := ⟨tvgc (tvc_5 (List.mem_of_getElem? (i := 175) (by decide +kernel))) rfl, tvgc (tvc_1 (List.mem_of_getElem? (i := 0) (by decide +kernel))) rfl, by decide +kernel, by decide +kernel, by decide +kernel⟩
theorem yi_L_run : Cond.static yL_run ∈ tvGW := tvgc (tvc_5 (List.mem_of_getElem? (i := 174) (by decide +kernel))) rfl
abbrev hh_L_errorPosition : List (Nat × Nat × Nat × Nat) := [(0, 8, 11, 42)]
theorem yw_L_errorPosition : tvYw yL_errorPosition cL_errorPosition 3 (some .int) hh_L_errorPosition 2 := ⟨tvgc (tvc_6 (List.mem_of_getElem? (i := 103) (by decide +kernel))) rfl, tvgc (tvc_1 (List.mem_of_getElem? (i := 0) (by decide +kernel))) rfl, by decide +kernel, by decide +kernel, by decide +kernel⟩
theorem yi_L_errorPosition : Cond.static yL_errorPosition ∈ tvGW := tvgc (tvc_6 (List.mem_of_getElem? (i := 102) (by decide +kernel))) rfl
abbrev hh_L_failedCommand : List (Nat × Nat × Nat × Nat) := [(0, 8, 11, 42)]
theorem yw_L_failedCommand : tvYw yL_failedCommand cL_failedCommand 3 (some .int) hh_L_failedCommand 2 := ⟨tvgc (tvc_6 (List.mem_of_getElem? (i := 111) (by decide +kernel))) rfl, tvgc (tvc_1 (List.mem_of_getElem? (i := 0) (by decide +kernel))) rfl, by decide +kernel, by decide +kernel, by decide +kernel⟩
theorem yi_L_failedCommand : Cond.static yL_failedCommand ∈ tvGW := tvgc (tvc_6 (List.mem_of_getElem? (i := 110) (by decide +kernel))) rfl
abbrev hh_L_wasWrongCode : List (Nat × Nat × Nat × Nat) := [(0, 15, 18, 42)]
theorem yw_L_wasWrongCode : tvYw yL_wasWrongCode cL_wasWrongCode 3 (some .int) hh_L_wasWrongCode 2 := ⟨tvgc (tvc_6 (List.mem_of_getElem? (i := 122) (by decide +kernel))) rfl, tvgc (tvc_1 (List.mem_of_getElem? (i := 0) (by decide +kernel))) rfl, by decide +kernel, by decide +kernel, by decide +kernel⟩
theorem yi_L_wasWrongCode : Cond.static yL_wasWrongCode ∈ tvGW := tvgc (tvc_6 (List.mem_of_getElem? (i := 121) (by decide +kernel))) rfl
abbrev hh_L_undo : List (Nat × Nat × Nat × Nat) := [(0, 8, 11, 15)]
theorem yw_L_undo : tvYw yL_undo cL_undo 3 (some .int) hh_L_undo 2 := ⟨tvgc (tvc_6 (List.mem_of_getElem? (i := 129) (by decide +kernel))) rfl, tvgc (tvc_1 (List.mem_of_getElem? (i := 0) (by decide +kernel))) rfl, by decide +kernel, by decide +kernel, by decide +kernel⟩
theorem yi_L_undo : Cond.static yL_undo ∈ tvGW := tvgc (tvc_6 (List.mem_of_getElem? (i := 128) (by decide +kernel))) rfl
abbrev hh_L_restore : List (Nat × Nat × Nat × Nat) := [(0, 8, 11, 15)]
theorem yw_L_restore : tvYw yL_restore cL_restore 3 (some .int) hh_L_restore 2 := ⟨tvgc (tvc_6 (List.mem_of_getElem? (i := 142) (by decide +kernel))) rfl, tvgc (tvc_1 (List.mem_of_getElem? (i := 0) (by decide +kernel))) rfl, by decide +kernel, by decide +kernel, by decide +kernel⟩
theorem yi_L_restore : Cond.static yL_restore ∈ tvGW := tvgc (tvc_6 (List.mem_of_getElem? (i := 141) (by decide +kernel))) rfl
