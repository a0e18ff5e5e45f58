theorem fw_5_3 : tvFw 5 3 := ⟨_, _, _, rfl, tyX5_ok, nmX5, rfl⟩
theorem ml_RX5_32 : Cond.methodLink RX5 32 yX5_readCommand ∈ tvGW := tvgc (tvc_6 (List.mem_of_getElem? (i := 15) (by decide +kernel))) rfl
theorem ml_RX5_36 : Cond.methodLink RX5 36 yX5_readSign ∈ tvGW := tvgc (tvc_6 (List.mem_of_getElem? (i := 77) (by decide +kernel))) rfl
theorem ml_RX5_40 : Cond.methodLink RX5 40 yX5_readVerb ∈ tvGW := tvgc (tvc_6 (List.mem_of_getElem? (i := 19) (by decide +kernel))) rfl
theorem ml_RX5_44 : Cond.methodLink RX5 44 yX5_setArgument ∈ tvGW := tvgc (tvc_6 (List.mem_of_getElem? (i := 46) (by decide +kernel))) rfl
theorem ml_RX5_54 : Cond.methodLink RX5 54 yX5_formOf ∈ tvGW := tvgc (tvc_6 (List.mem_of_getElem? (i := 55) (by decide +kernel))) rfl
theorem ml_RX5_58 : Cond.methodLink RX5 58 yX5_readForm ∈ tvGW := tvgc (tvc_6 (List.mem_of_getElem? (i := 66) (by decide +kernel))) rfl
theorem ml_RX5_62 : Cond.methodLink RX5 62 yX5_wordOf ∈ tvGW := tvgc (tvc_6 (List.mem_of_getElem? (i := 23) (by decide +kernel))) rfl
theorem ml_RX5_65 : Cond.methodLink RX5 65 yX5_countSame ∈ tvGW := tvgc (tvc_6 (List.mem_of_getElem? (i := 35) (by decide +kernel))) rfl
theorem ml_RX5_69 : Cond.methodLink RX5 69 yJ0_length_8abf5 ∈ tvGW := tvgc (tvc_6 (List.mem_of_getElem? (i := 39) (by decide +kernel))) rfl
theorem ml_RX5_73 : Cond.methodLink RX5 73 yJ9_max_7cf53 ∈ tvGW := tvgc (tvc_6 (List.mem_of_getElem? (i := 45) (by decide +kernel))) rfl
theorem ml_RX5_83 : Cond.methodLink RX5 83 yJ0_charAt_5068e ∈ tvGW := tvgc (tvc_6 (List.mem_of_getElem? (i := 44) (by decide +kernel))) rfl
theorem ml_RX5_86 : Cond.methodLink RX5 86 yX5_readNumber ∈ tvGW := tvgc (tvc_6 (List.mem_of_getElem? (i := 70) (by decide +kernel))) rfl
theorem ml_RX5_90 : Cond.methodLink RX5 90 yX5_isDigit ∈ tvGW := tvgc (tvc_6 (List.mem_of_getElem? (i := 74) (by decide +kernel))) rfl
theorem yk_X5_countSame : tvYk yX5_countSame cX5_countSame 3 (some .int) 1 := ⟨tvgc (tvc_6 (List.mem_of_getElem? (i := 38) (by decide +kernel))) rfl, tvgc (tvc_1 (List.mem_of_getElem? (i := 8) (by decide +kernel))) rfl, by decide +kernel, by decide +kernel, plainFor_of_name (by decide +kernel)⟩
theorem yi_X5_countSame : tvYi yX5_countSame := ⟨tvgc (tvc_6 (List.mem_of_getElem? (i := 37) (by decide +kernel))) rfl, tvg 17 (by decide +kernel) rfl⟩
theorem yk_X5_parse : tvYk yX5_parse cX5_parse 3 (some .int) 0 := ⟨tvgc (tvc_6 (List.mem_of_getElem? (i := 14) (by decide +kernel))) rfl, tvgc (tvc_1 (List.mem_of_getElem? (i := 8) (by decide +kernel))) rfl, by decide +kernel, by decide +kernel, plainFor_of_name (by decide +kernel)⟩
theorem yi_X5_parse : tvYi yX5_parse := ⟨tvgc (tvc_6 (List.mem_of_getElem? (i := 12) (by decide +kernel))) rfl, tvgc (tvc_6 (List.mem_of_getElem? (i := 13) (by decide +kernel))) rfl⟩
theorem yk_X5_readCommand : tvYk yX5_readCommand cX5_readCommand 3 (some .boolean) 0 := ⟨tvgc (tvc_6 (List.mem_of_getElem? (i := 18) (by decide +kernel))) rfl, tvgc (tvc_1 (List.mem_of_getElem? (i := 8) (by decide +kernel))) rfl, by decide +kernel, by decide +kernel, plainFor_of_name (by decide +kernel)⟩
theorem yi_X5_readCommand : tvYi yX5_readCommand := ⟨tvgc (tvc_6 (List.mem_of_getElem? (i := 17) (by decide +kernel))) rfl, tvg 15 (by decide +kernel) rfl⟩
theorem yk_X5_readForm : tvYk yX5_readForm cX5_readForm 6 (some .boolean) 1 := ⟨tvgc (tvc_6 (List.mem_of_getElem? (i := 69) (by decide +kernel))) rfl, tvgc (tvc_1 (List.mem_of_getElem? (i := 8) (by decide +kernel))) rfl, by decide +kernel, by decide +kernel, plainFor_of_name (by decide +kernel)⟩
theorem yi_X5_readForm : tvYi yX5_readForm := ⟨tvgc (tvc_6 (List.mem_of_getElem? (i := 68) (by decide +kernel))) rfl, tvg 21 (by decide +kernel) rfl⟩
theorem yk_X5_readNumber : tvYk yX5_readNumber cX5_readNumber 5 (some .boolean) 2 := ⟨tvgc (tvc_6 (List.mem_of_getElem? (i := 73) (by decide +kernel))) rfl, tvgc (tvc_1 (List.mem_of_getElem? (i := 8) (by decide +kernel))) rfl, by decide +kernel, by decide +kernel, plainFor_of_name (by decide +kernel)⟩
theorem yi_X5_readNumber : tvYi yX5_readNumber := ⟨tvgc (tvc_6 (List.mem_of_getElem? (i := 72) (by decide +kernel))) rfl, tvg 22 (by decide +kernel) rfl⟩
theorem yk_X5_readVerb : tvYk yX5_readVerb cX5_readVerb 5 (some .int) 0 := ⟨tvgc (tvc_6 (List.mem_of_getElem? (i := 22) (by decide +kernel))) rfl, tvgc (tvc_1 (List.mem_of_getElem? (i := 8) (by decide +kernel))) rfl, by decide +kernel, by decide +kernel, plainFor_of_name (by decide +kernel)⟩
theorem yi_X5_readVerb : tvYi yX5_readVerb := ⟨tvgc (tvc_6 (List.mem_of_getElem? (i := 21) (by decide +kernel))) rfl, tvg 16 (by decide +kernel) rfl⟩
def dl_X5_countSame : List (Nat × Instr × Nat) := [(0, .iconst 0, 1), (1, .istore_n 2, 1), (2, .iload_n 2, 1), (3, .aload_n 1, 1), (4, .invokevirtual 69, 3), (7, .if_icmp .ge 40, 3), (10, .aload_n 0, 1), (11, .getfield 26, 3), (14, .iload_n 2, 1), (15, .iadd, 1), (16, .aload_n 0, 1), (17, .getfield 22, 3), (20, .if_icmp .ge 27, 3), (23, .aload_n 0, 1), (24, .aload_n 0, 1), (25, .getfield 26, 3), (28, .iload_n 2, 1), (29, .iadd, 1), (30, .invokevirtual 79, 3), (33, .aload_n 1, 1), (34, .iload_n 2, 1), (35, .invokevirtual 83, 3), (38, .if_icmp .ne 9, 3), (41, .iinc 2 1, 3), (44, .goto (-42), 3), (47, .iload_n 2, 1), (48, .ireturn, 1)]
theorem dlk_X5_countSame : tvDl cX5_countSame dl_X5_countSame = true := by decide +kernel
theorem dk_X5_countSame_0 : tvD cX5_countSame 0 (.iconst 0) 1 1 := tvDl_get dlk_X5_countSame 0 rfl rfl
theorem dk_X5_countSame_1 : tvD cX5_countSame 1 (.istore_n 2) 1 2 := tvDl_get dlk_X5_countSame 1 rfl rfl
theorem dk_X5_countSame_2 : tvD cX5_countSame 2 (.iload_n 2) 1 3 := tvDl_get dlk_X5_countSame 2 rfl rfl
theorem dk_X5_countSame_3 : tvD cX5_countSame 3 (.aload_n 1) 1 4 := tvDl_get dlk_X5_countSame 3 rfl rfl
theorem dk_X5_countSame_4 : tvD cX5_countSame 4 (.invokevirtual 69) 3 7 := tvDl_get dlk_X5_countSame 4 rfl rfl
theorem dk_X5_countSame_7 : tvJ cX5_countSame 7 (.if_icmp .ge) 47 10 := tvJl_get dlk_X5_countSame 5 rfl (by decide) rfl
theorem dk_X5_countSame_10 : tvD cX5_countSame 10 (.aload_n 0) 1 11 := tvDl_get dlk_X5_countSame 6 rfl rfl
theorem dk_X5_countSame_11 : tvD cX5_countSame 11 (.getfield 26) 3 14 := tvDl_get dlk_X5_countSame 7 rfl rfl
theorem dk_X5_countSame_14 : tvD cX5_countSame 14 (.iload_n 2) 1 15 := tvDl_get dlk_X5_countSame 8 rfl rfl
theorem dk_X5_countSame_15 : tvD cX5_countSame 15 (.iadd) 1 16 := tvDl_get dlk_X5_countSame 9 rfl rfl
theorem dk_X5_countSame_16 : tvD cX5_countSame 16 (.aload_n 0) 1 17 := tvDl_get dlk_X5_countSame 10 rfl rfl
theorem dk_X5_countSame_17 : tvD cX5_countSame 17 (.getfield 22) 3 20 := tvDl_get dlk_X5_countSame 11 rfl rfl
theorem dk_X5_countSame_20 : tvJ cX5_countSame 20 (.if_icmp .ge) 47 23 := tvJl_get dlk_X5_countSame 12 rfl (by decide) rfl
theorem dk_X5_countSame_23 : tvD cX5_countSame 23 (.aload_n 0) 1 24 := tvDl_get dlk_X5_countSame 13 rfl rfl
theorem dk_X5_countSame_24 : tvD cX5_countSame 24 (.aload_n 0) 1 25 := tvDl_get dlk_X5_countSame 14 rfl rfl
theorem dk_X5_countSame_25 : tvD cX5_countSame 25 (.getfield 26) 3 28 := tvDl_get dlk_X5_countSame 15 rfl rfl
theorem dk_X5_countSame_28 : tvD cX5_countSame 28 (.iload_n 2) 1 29 := tvDl_get dlk_X5_countSame 16 rfl rfl
theorem dk_X5_countSame_29 : tvD cX5_countSame 29 (.iadd) 1 30 := tvDl_get dlk_X5_countSame 17 rfl rfl
theorem dk_X5_countSame_30 : tvD cX5_countSame 30 (.invokevirtual 79) 3 33 := tvDl_get dlk_X5_countSame 18 rfl rfl
theorem dk_X5_countSame_33 : tvD cX5_countSame 33 (.aload_n 1) 1 34 := tvDl_get dlk_X5_countSame 19 rfl rfl
theorem dk_X5_countSame_34 : tvD cX5_countSame 34 (.iload_n 2) 1 35 := tvDl_get dlk_X5_countSame 20 rfl rfl
theorem dk_X5_countSame_35 : tvD cX5_countSame 35 (.invokevirtual 83) 3 38 := tvDl_get dlk_X5_countSame 21 rfl rfl
theorem dk_X5_countSame_38 : tvJ cX5_countSame 38 (.if_icmp .ne) 47 41 := tvJl_get dlk_X5_countSame 22 rfl (by decide) rfl
theorem dk_X5_countSame_41 : tvD cX5_countSame 41 (.iinc 2 1) 3 44 := tvDl_get dlk_X5_countSame 23 rfl rfl
theorem dk_X5_countSame_44 : tvJ cX5_countSame 44 .goto 2 47 := tvJl_get dlk_X5_countSame 24 rfl (by decide) rfl
theorem dk_X5_countSame_47 : tvD cX5_countSame 47 (.iload_n 2) 1 48 := tvDl_get dlk_X5_countSame 25 rfl rfl
theorem dk_X5_countSame_48 : tvD cX5_countSame 48 (.ireturn) 1 49 := tvDl_get dlk_X5_countSame 26 rfl rfl
def dl_X5_parse : List (Nat × Instr × Nat) := [(0, .aload_n 0, 1), (1, .iconst 0, 1), (2, .putfield 26, 3), (5, .aload_n 0, 1), (6, .iconst 0, 1), (7, .putfield 29, 3), (10, .aload_n 0, 1), (11, .invokevirtual 32, 3), (14, .istore_n 1, 1), (15, .iconst 0, 1), (16, .istore_n 2, 1), (17, .iload_n 2, 1), (18, .bipush 60, 2), (20, .if_icmp .ge 46, 3), (23, .iload_n 1, 1), (24, .ifCond .eq 42, 3), (27, .aload_n 0, 1), (28, .getfield 26, 3), (31, .aload_n 0, 1), (32, .getfield 22, 3), (35, .if_icmp .ge 31, 3), (38, .aload_n 0, 1), (39, .bipush 59, 2), (41, .invokevirtual 36, 3), (44, .ifCond .eq 14, 3), (47, .aload_n 0, 1), (48, .invokevirtual 32, 3), (51, .ifCond .eq 7, 3), (54, .iconst 1, 1), (55, .goto 4, 3), (58, .iconst 0, 1), (59, .istore_n 1, 1), (60, .iinc 2 1, 3), (63, .goto (-46), 3), (66, .iload_n 1, 1), (67, .ifCond .eq 7, 3), (70, .iconst (-1), 1), (71, .goto 7, 3), (74, .aload_n 0, 1), (75, .getfield 26, 3), (78, .ireturn, 1)]
theorem dlk_X5_parse : tvDl cX5_parse dl_X5_parse = true := by decide +kernel
theorem dk_X5_parse_0 : tvD cX5_parse 0 (.aload_n 0) 1 1 := tvDl_get dlk_X5_parse 0 rfl rfl
theorem dk_X5_parse_1 : tvD cX5_parse 1 (.iconst 0) 1 2 := tvDl_get dlk_X5_parse 1 rfl rfl
theorem dk_X5_parse_2 : tvD cX5_parse 2 (.putfield 26) 3 5 := tvDl_get dlk_X5_parse 2 rfl rfl
theorem dk_X5_parse_5 : tvD cX5_parse 5 (.aload_n 0) 1 6 := tvDl_get dlk_X5_parse 3 rfl rfl
theorem dk_X5_parse_6 : tvD cX5_parse 6 (.iconst 0) 1 7 := tvDl_get dlk_X5_parse 4 rfl rfl
theorem dk_X5_parse_7 : tvD cX5_parse 7 (.putfield 29) 3 10 := tvDl_get dlk_X5_parse 5 rfl rfl
theorem dk_X5_parse_10 : tvD cX5_parse 10 (.aload_n 0) 1 11 := tvDl_get dlk_X5_parse 6 rfl rfl
theorem dk_X5_parse_11 : tvD cX5_parse 11 (.invokevirtual 32) 3 14 := tvDl_get dlk_X5_parse 7 rfl rfl
theorem dk_X5_parse_14 : tvD cX5_parse 14 (.istore_n 1) 1 15 := tvDl_get dlk_X5_parse 8 rfl rfl
theorem dk_X5_parse_15 : tvD cX5_parse 15 (.iconst 0) 1 16 := tvDl_get dlk_X5_parse 9 rfl rfl
theorem dk_X5_parse_16 : tvD cX5_parse 16 (.istore_n 2) 1 17 := tvDl_get dlk_X5_parse 10 rfl rfl
theorem dk_X5_parse_17 : tvD cX5_parse 17 (.iload_n 2) 1 18 := tvDl_get dlk_X5_parse 11 rfl rfl
theorem dk_X5_parse_18 : tvD cX5_parse 18 (.bipush 60) 2 20 := tvDl_get dlk_X5_parse 12 rfl rfl
theorem dk_X5_parse_20 : tvJ cX5_parse 20 (.if_icmp .ge) 66 23 := tvJl_get dlk_X5_parse 13 rfl (by decide) rfl
theorem dk_X5_parse_23 : tvD cX5_parse 23 (.iload_n 1) 1 24 := tvDl_get dlk_X5_parse 14 rfl rfl
theorem dk_X5_parse_24 : tvJ cX5_parse 24 (.ifCond .eq) 66 27 := tvJl_get dlk_X5_parse 15 rfl (by decide) rfl
theorem dk_X5_parse_27 : tvD cX5_parse 27 (.aload_n 0) 1 28 := tvDl_get dlk_X5_parse 16 rfl rfl
theorem dk_X5_parse_28 : tvD cX5_parse 28 (.getfield 26) 3 31 := tvDl_get dlk_X5_parse 17 rfl rfl
theorem dk_X5_parse_31 : tvD cX5_parse 31 (.aload_n 0) 1 32 := tvDl_get dlk_X5_parse 18 rfl rfl
theorem dk_X5_parse_32 : tvD cX5_parse 32 (.getfield 22) 3 35 := tvDl_get dlk_X5_parse 19 rfl rfl
theorem dk_X5_parse_35 : tvJ cX5_parse 35 (.if_icmp .ge) 66 38 := tvJl_get dlk_X5_parse 20 rfl (by decide) rfl
theorem dk_X5_parse_38 : tvD cX5_parse 38 (.aload_n 0) 1 39 := tvDl_get dlk_X5_parse 21 rfl rfl
theorem dk_X5_parse_39 : tvD cX5_parse 39 (.bipush 59) 2 41 := tvDl_get dlk_X5_parse 22 rfl rfl
theorem dk_X5_parse_41 : tvD cX5_parse 41 (.invokevirtual 36) 3 44 := tvDl_get dlk_X5_parse 23 rfl rfl
theorem dk_X5_parse_44 : tvJ cX5_parse 44 (.ifCond .eq) 58 47 := tvJl_get dlk_X5_parse 24 rfl (by decide) rfl
theorem dk_X5_parse_47 : tvD cX5_parse 47 (.aload_n 0) 1 48 := tvDl_get dlk_X5_parse 25 rfl rfl
theorem dk_X5_parse_48 : tvD cX5_parse 48 (.invokevirtual 32) 3 51 := tvDl_get dlk_X5_parse 26 rfl rfl
theorem dk_X5_parse_51 : tvJ cX5_parse 51 (.ifCond .eq) 58 54 := tvJl_get dlk_X5_parse 27 rfl (by decide) rfl
theorem dk_X5_parse_54 : tvD cX5_parse 54 (.iconst 1) 1 55 := tvDl_get dlk_X5_parse 28 rfl rfl
theorem dk_X5_parse_55 : tvJ cX5_parse 55 .goto 59 58 := tvJl_get dlk_X5_parse 29 rfl (by decide) rfl
theorem dk_X5_parse_58 : tvD cX5_parse 58 (.iconst 0) 1 59 := tvDl_get dlk_X5_parse 30 rfl rfl
theorem dk_X5_parse_59 : tvD cX5_parse 59 (.istore_n 1) 1 60 := tvDl_get dlk_X5_parse 31 rfl rfl
theorem dk_X5_parse_60 : tvD cX5_parse 60 (.iinc 2 1) 3 63 := tvDl_get dlk_X5_parse 32 rfl rfl
theorem dk_X5_parse_63 : tvJ cX5_parse 63 .goto 17 66 := tvJl_get dlk_X5_parse 33 rfl (by decide) rfl
theorem dk_X5_parse_66 : tvD cX5_parse 66 (.iload_n 1) 1 67 := tvDl_get dlk_X5_parse 34 rfl rfl
theorem dk_X5_parse_67 : tvJ cX5_parse 67 (.ifCond .eq) 74 70 := tvJl_get dlk_X5_parse 35 rfl (by decide) rfl
theorem dk_X5_parse_70 : tvD cX5_parse 70 (.iconst (-1)) 1 71 := tvDl_get dlk_X5_parse 36 rfl rfl
theorem dk_X5_parse_71 : tvJ cX5_parse 71 .goto 78 74 := tvJl_get dlk_X5_parse 37 rfl (by decide) rfl
theorem dk_X5_parse_74 : tvD cX5_parse 74 (.aload_n 0) 1 75 := tvDl_get dlk_X5_parse 38 rfl rfl
theorem dk_X5_parse_75 : tvD cX5_parse 75 (.getfield 26) 3 78 := tvDl_get dlk_X5_parse 39 rfl rfl
theorem dk_X5_parse_78 : tvD cX5_parse 78 (.ireturn) 1 79 := tvDl_get dlk_X5_parse 40 rfl rfl
def dl_X5_readCommand : List (Nat × Instr × Nat) := [(0, .aload_n 0, 1), (1, .invokevirtual 40, 3), (4, .istore_n 1, 1), (5, .iload_n 1, 1), (6, .iconst (-1), 1), (7, .if_icmp .eq 19, 3), (10, .aload_n 0, 1), (11, .getfield 29, 3), (14, .ifCond .lt 12, 3), (17, .aload_n 0, 1), (18, .getfield 29, 3), (21, .bipush 60, 2), (23, .if_icmp .lt 5, 3), (26, .iconst 0, 1), (27, .ireturn, 1), (28, .aload_n 0, 1), (29, .getfield 15, 3), (32, .aload_n 0, 1), (33, .getfield 29, 3), (36, .iload_n 1, 1), (37, .iastore, 1), (38, .iload_n 1, 1), (39, .bipush 8, 2), (41, .if_icmp .ne 9, 3), (44, .aload_n 0, 1), (45, .iconst 0, 1), (46, .iconst 1, 1), (47, .invokevirtual 44, 3), (50, .aload_n 0, 1), (51, .iload_n 1, 1), (52, .bipush 8, 2), (54, .if_icmp .ne 17, 3), (57, .aload_n 0, 1), (58, .invokevirtual 48, 3), (61, .bipush 32, 2), (63, .if_icmp .ne 8, 3), (66, .ldc 52, 2), (68, .goto 7, 3), (71, .iload_n 1, 1), (72, .invokestatic 54, 3), (75, .invokevirtual 58, 3), (78, .istore_n 2, 1), (79, .aload_n 0, 1), (80, .dup, 1), (81, .getfield 29, 3), (84, .iconst 1, 1), (85, .iadd, 1), (86, .putfield 29, 3), (89, .iload_n 2, 1), (90, .ireturn, 1)]
theorem dlk_X5_readCommand : tvDl cX5_readCommand dl_X5_readCommand = true := by decide +kernel
theorem dk_X5_readCommand_0 : tvD cX5_readCommand 0 (.aload_n 0) 1 1 := tvDl_get dlk_X5_readCommand 0 rfl rfl
theorem dk_X5_readCommand_1 : tvD cX5_readCommand 1 (.invokevirtual 40) 3 4 := tvDl_get dlk_X5_readCommand 1 rfl rfl
theorem dk_X5_readCommand_4 : tvD cX5_readCommand 4 (.istore_n 1) 1 5 := tvDl_get dlk_X5_readCommand 2 rfl rfl
theorem dk_X5_readCommand_5 : tvD cX5_readCommand 5 (.iload_n 1) 1 6 := tvDl_get dlk_X5_readCommand 3 rfl rfl
theorem dk_X5_readCommand_6 : tvD cX5_readCommand 6 (.iconst (-1)) 1 7 := tvDl_get dlk_X5_readCommand 4 rfl rfl
theorem dk_X5_readCommand_7 : tvJ cX5_readCommand 7 (.if_icmp .eq) 26 10 := tvJl_get dlk_X5_readCommand 5 rfl (by decide) rfl
theorem dk_X5_readCommand_10 : tvD cX5_readCommand 10 (.aload_n 0) 1 11 := tvDl_get dlk_X5_readCommand 6 rfl rfl
theorem dk_X5_readCommand_11 : tvD cX5_readCommand 11 (.getfield 29) 3 14 := tvDl_get dlk_X5_readCommand 7 rfl rfl
theorem dk_X5_readCommand_14 : tvJ cX5_readCommand 14 (.ifCond .lt) 26 17 := tvJl_get dlk_X5_readCommand 8 rfl (by decide) rfl
theorem dk_X5_readCommand_17 : tvD cX5_readCommand 17 (.aload_n 0) 1 18 := tvDl_get dlk_X5_readCommand 9 rfl rfl
theorem dk_X5_readCommand_18 : tvD cX5_readCommand 18 (.getfield 29) 3 21 := tvDl_get dlk_X5_readCommand 10 rfl rfl
theorem dk_X5_readCommand_21 : tvD cX5_readCommand 21 (.bipush 60) 2 23 := tvDl_get dlk_X5_readCommand 11 rfl rfl
theorem dk_X5_readCommand_23 : tvJ cX5_readCommand 23 (.if_icmp .lt) 28 26 := tvJl_get dlk_X5_readCommand 12 rfl (by decide) rfl
theorem dk_X5_readCommand_26 : tvD cX5_readCommand 26 (.iconst 0) 1 27 := tvDl_get dlk_X5_readCommand 13 rfl rfl
theorem dk_X5_readCommand_27 : tvD cX5_readCommand 27 (.ireturn) 1 28 := tvDl_get dlk_X5_readCommand 14 rfl rfl
theorem dk_X5_readCommand_28 : tvD cX5_readCommand 28 (.aload_n 0) 1 29 := tvDl_get dlk_X5_readCommand 15 rfl rfl
theorem dk_X5_readCommand_29 : tvD cX5_readCommand 29 (.getfield 15) 3 32 := tvDl_get dlk_X5_readCommand 16 rfl rfl
theorem dk_X5_readCommand_32 : tvD cX5_readCommand 32 (.aload_n 0) 1 33 := tvDl_get dlk_X5_readCommand 17 rfl rfl
theorem dk_X5_readCommand_33 : tvD cX5_readCommand 33 (.getfield 29) 3 36 := tvDl_get dlk_X5_readCommand 18 rfl rfl
theorem dk_X5_readCommand_36 : tvD cX5_readCommand 36 (.iload_n 1) 1 37 := tvDl_get dlk_X5_readCommand 19 rfl rfl
theorem dk_X5_readCommand_37 : tvD cX5_readCommand 37 (.iastore) 1 38 := tvDl_get dlk_X5_readCommand 20 rfl rfl
theorem dk_X5_readCommand_38 : tvD cX5_readCommand 38 (.iload_n 1) 1 39 := tvDl_get dlk_X5_readCommand 21 rfl rfl
theorem dk_X5_readCommand_39 : tvD cX5_readCommand 39 (.bipush 8) 2 41 := tvDl_get dlk_X5_readCommand 22 rfl rfl
theorem dk_X5_readCommand_41 : tvJ cX5_readCommand 41 (.if_icmp .ne) 50 44 := tvJl_get dlk_X5_readCommand 23 rfl (by decide) rfl
theorem dk_X5_readCommand_44 : tvD cX5_readCommand 44 (.aload_n 0) 1 45 := tvDl_get dlk_X5_readCommand 24 rfl rfl
theorem dk_X5_readCommand_45 : tvD cX5_readCommand 45 (.iconst 0) 1 46 := tvDl_get dlk_X5_readCommand 25 rfl rfl
theorem dk_X5_readCommand_46 : tvD cX5_readCommand 46 (.iconst 1) 1 47 := tvDl_get dlk_X5_readCommand 26 rfl rfl
theorem dk_X5_readCommand_47 : tvD cX5_readCommand 47 (.invokevirtual 44) 3 50 := tvDl_get dlk_X5_readCommand 27 rfl rfl
theorem dk_X5_readCommand_50 : tvD cX5_readCommand 50 (.aload_n 0) 1 51 := tvDl_get dlk_X5_readCommand 28 rfl rfl
theorem dk_X5_readCommand_51 : tvD cX5_readCommand 51 (.iload_n 1) 1 52 := tvDl_get dlk_X5_readCommand 29 rfl rfl
theorem dk_X5_readCommand_52 : tvD cX5_readCommand 52 (.bipush 8) 2 54 := tvDl_get dlk_X5_readCommand 30 rfl rfl
theorem dk_X5_readCommand_54 : tvJ cX5_readCommand 54 (.if_icmp .ne) 71 57 := tvJl_get dlk_X5_readCommand 31 rfl (by decide) rfl
theorem dk_X5_readCommand_57 : tvD cX5_readCommand 57 (.aload_n 0) 1 58 := tvDl_get dlk_X5_readCommand 32 rfl rfl
theorem dk_X5_readCommand_58 : tvD cX5_readCommand 58 (.invokevirtual 48) 3 61 := tvDl_get dlk_X5_readCommand 33 rfl rfl
theorem dk_X5_readCommand_61 : tvD cX5_readCommand 61 (.bipush 32) 2 63 := tvDl_get dlk_X5_readCommand 34 rfl rfl
theorem dk_X5_readCommand_63 : tvJ cX5_readCommand 63 (.if_icmp .ne) 71 66 := tvJl_get dlk_X5_readCommand 35 rfl (by decide) rfl
theorem dk_X5_readCommand_66 : tvD cX5_readCommand 66 (.ldc 52) 2 68 := tvDl_get dlk_X5_readCommand 36 rfl rfl
theorem dk_X5_readCommand_68 : tvJ cX5_readCommand 68 .goto 75 71 := tvJl_get dlk_X5_readCommand 37 rfl (by decide) rfl
theorem dk_X5_readCommand_71 : tvD cX5_readCommand 71 (.iload_n 1) 1 72 := tvDl_get dlk_X5_readCommand 38 rfl rfl
theorem dk_X5_readCommand_72 : tvD cX5_readCommand 72 (.invokestatic 54) 3 75 := tvDl_get dlk_X5_readCommand 39 rfl rfl
theorem dk_X5_readCommand_75 : tvD cX5_readCommand 75 (.invokevirtual 58) 3 78 := tvDl_get dlk_X5_readCommand 40 rfl rfl
theorem dk_X5_readCommand_78 : tvD cX5_readCommand 78 (.istore_n 2) 1 79 := tvDl_get dlk_X5_readCommand 41 rfl rfl
theorem dk_X5_readCommand_79 : tvD cX5_readCommand 79 (.aload_n 0) 1 80 := tvDl_get dlk_X5_readCommand 42 rfl rfl
theorem dk_X5_readCommand_80 : tvD cX5_readCommand 80 (.dup) 1 81 := tvDl_get dlk_X5_readCommand 43 rfl rfl
theorem dk_X5_readCommand_81 : tvD cX5_readCommand 81 (.getfield 29) 3 84 := tvDl_get dlk_X5_readCommand 44 rfl rfl
theorem dk_X5_readCommand_84 : tvD cX5_readCommand 84 (.iconst 1) 1 85 := tvDl_get dlk_X5_readCommand 45 rfl rfl
theorem dk_X5_readCommand_85 : tvD cX5_readCommand 85 (.iadd) 1 86 := tvDl_get dlk_X5_readCommand 46 rfl rfl
theorem dk_X5_readCommand_86 : tvD cX5_readCommand 86 (.putfield 29) 3 89 := tvDl_get dlk_X5_readCommand 47 rfl rfl
theorem dk_X5_readCommand_89 : tvD cX5_readCommand 89 (.iload_n 2) 1 90 := tvDl_get dlk_X5_readCommand 48 rfl rfl
theorem dk_X5_readCommand_90 : tvD cX5_readCommand 90 (.ireturn) 1 91 := tvDl_get dlk_X5_readCommand 49 rfl rfl
def dl_X5_readForm : List (Nat × Instr × Nat) := [(0, .iconst 1, 1), (1, .istore_n 2, 1), (2, .iconst 0, 1), (3, .istore_n 3, 1), (4, .iconst 0, 1), (5, .istore 4, 2), (7, .iload_n 2, 1), (8, .ifCond .eq 71, 3), (11, .iload 4, 2), (13, .aload_n 1, 1), (14, .invokevirtual 69, 3), (17, .if_icmp .ge 62, 3), (20, .aload_n 1, 1), (21, .iload 4, 2), (23, .invokevirtual 83, 3), (26, .istore 5, 2), (28, .iload 5, 2), (30, .bipush 100, 2), (32, .if_icmp .eq 10, 3), (35, .iload 5, 2), (37, .bipush 110, 2), (39, .if_icmp .ne 27, 3), (42, .aload_n 0, 1), (43, .iload_n 3, 1), (44, .iload 5, 2), (46, .bipush 100, 2), (48, .if_icmp .ne 7, 3), (51, .iconst 1, 1), (52, .goto 4, 3), (55, .iconst 3, 1), (56, .invokevirtual 86, 3), (59, .istore_n 2, 1), (60, .iinc 3 1, 3), (63, .goto 10, 3), (66, .aload_n 0, 1), (67, .iload 5, 2), (69, .invokevirtual 36, 3), (72, .istore_n 2, 1), (73, .iinc 4 1, 3), (76, .goto (-69), 3), (79, .iload_n 2, 1), (80, .ireturn, 1)]
theorem dlk_X5_readForm : tvDl cX5_readForm dl_X5_readForm = true := by decide +kernel
theorem dk_X5_readForm_0 : tvD cX5_readForm 0 (.iconst 1) 1 1 := tvDl_get dlk_X5_readForm 0 rfl rfl
theorem dk_X5_readForm_1 : tvD cX5_readForm 1 (.istore_n 2) 1 2 := tvDl_get dlk_X5_readForm 1 rfl rfl
theorem dk_X5_readForm_2 : tvD cX5_readForm 2 (.iconst 0) 1 3 := tvDl_get dlk_X5_readForm 2 rfl rfl
theorem dk_X5_readForm_3 : tvD cX5_readForm 3 (.istore_n 3) 1 4 := tvDl_get dlk_X5_readForm 3 rfl rfl
theorem dk_X5_readForm_4 : tvD cX5_readForm 4 (.iconst 0) 1 5 := tvDl_get dlk_X5_readForm 4 rfl rfl
theorem dk_X5_readForm_5 : tvD cX5_readForm 5 (.istore 4) 2 7 := tvDl_get dlk_X5_readForm 5 rfl rfl
theorem dk_X5_readForm_7 : tvD cX5_readForm 7 (.iload_n 2) 1 8 := tvDl_get dlk_X5_readForm 6 rfl rfl
theorem dk_X5_readForm_8 : tvJ cX5_readForm 8 (.ifCond .eq) 79 11 := tvJl_get dlk_X5_readForm 7 rfl (by decide) rfl
theorem dk_X5_readForm_11 : tvD cX5_readForm 11 (.iload 4) 2 13 := tvDl_get dlk_X5_readForm 8 rfl rfl
theorem dk_X5_readForm_13 : tvD cX5_readForm 13 (.aload_n 1) 1 14 := tvDl_get dlk_X5_readForm 9 rfl rfl
theorem dk_X5_readForm_14 : tvD cX5_readForm 14 (.invokevirtual 69) 3 17 := tvDl_get dlk_X5_readForm 10 rfl rfl
theorem dk_X5_readForm_17 : tvJ cX5_readForm 17 (.if_icmp .ge) 79 20 := tvJl_get dlk_X5_readForm 11 rfl (by decide) rfl
theorem dk_X5_readForm_20 : tvD cX5_readForm 20 (.aload_n 1) 1 21 := tvDl_get dlk_X5_readForm 12 rfl rfl
theorem dk_X5_readForm_21 : tvD cX5_readForm 21 (.iload 4) 2 23 := tvDl_get dlk_X5_readForm 13 rfl rfl
theorem dk_X5_readForm_23 : tvD cX5_readForm 23 (.invokevirtual 83) 3 26 := tvDl_get dlk_X5_readForm 14 rfl rfl
theorem dk_X5_readForm_26 : tvD cX5_readForm 26 (.istore 5) 2 28 := tvDl_get dlk_X5_readForm 15 rfl rfl
theorem dk_X5_readForm_28 : tvD cX5_readForm 28 (.iload 5) 2 30 := tvDl_get dlk_X5_readForm 16 rfl rfl
theorem dk_X5_readForm_30 : tvD cX5_readForm 30 (.bipush 100) 2 32 := tvDl_get dlk_X5_readForm 17 rfl rfl
theorem dk_X5_readForm_32 : tvJ cX5_readForm 32 (.if_icmp .eq) 42 35 := tvJl_get dlk_X5_readForm 18 rfl (by decide) rfl
theorem dk_X5_readForm_35 : tvD cX5_readForm 35 (.iload 5) 2 37 := tvDl_get dlk_X5_readForm 19 rfl rfl
theorem dk_X5_readForm_37 : tvD cX5_readForm 37 (.bipush 110) 2 39 := tvDl_get dlk_X5_readForm 20 rfl rfl
theorem dk_X5_readForm_39 : tvJ cX5_readForm 39 (.if_icmp .ne) 66 42 := tvJl_get dlk_X5_readForm 21 rfl (by decide) rfl
theorem dk_X5_readForm_42 : tvD cX5_readForm 42 (.aload_n 0) 1 43 := tvDl_get dlk_X5_readForm 22 rfl rfl
theorem dk_X5_readForm_43 : tvD cX5_readForm 43 (.iload_n 3) 1 44 := tvDl_get dlk_X5_readForm 23 rfl rfl
theorem dk_X5_readForm_44 : tvD cX5_readForm 44 (.iload 5) 2 46 := tvDl_get dlk_X5_readForm 24 rfl rfl
theorem dk_X5_readForm_46 : tvD cX5_readForm 46 (.bipush 100) 2 48 := tvDl_get dlk_X5_readForm 25 rfl rfl
theorem dk_X5_readForm_48 : tvJ cX5_readForm 48 (.if_icmp .ne) 55 51 := tvJl_get dlk_X5_readForm 26 rfl (by decide) rfl
theorem dk_X5_readForm_51 : tvD cX5_readForm 51 (.iconst 1) 1 52 := tvDl_get dlk_X5_readForm 27 rfl rfl
theorem dk_X5_readForm_52 : tvJ cX5_readForm 52 .goto 56 55 := tvJl_get dlk_X5_readForm 28 rfl (by decide) rfl
theorem dk_X5_readForm_55 : tvD cX5_readForm 55 (.iconst 3) 1 56 := tvDl_get dlk_X5_readForm 29 rfl rfl
theorem dk_X5_readForm_56 : tvD cX5_readForm 56 (.invokevirtual 86) 3 59 := tvDl_get dlk_X5_readForm 30 rfl rfl
theorem dk_X5_readForm_59 : tvD cX5_readForm 59 (.istore_n 2) 1 60 := tvDl_get dlk_X5_readForm 31 rfl rfl
theorem dk_X5_readForm_60 : tvD cX5_readForm 60 (.iinc 3 1) 3 63 := tvDl_get dlk_X5_readForm 32 rfl rfl
theorem dk_X5_readForm_63 : tvJ cX5_readForm 63 .goto 73 66 := tvJl_get dlk_X5_readForm 33 rfl (by decide) rfl
theorem dk_X5_readForm_66 : tvD cX5_readForm 66 (.aload_n 0) 1 67 := tvDl_get dlk_X5_readForm 34 rfl rfl
theorem dk_X5_readForm_67 : tvD cX5_readForm 67 (.iload 5) 2 69 := tvDl_get dlk_X5_readForm 35 rfl rfl
theorem dk_X5_readForm_69 : tvD cX5_readForm 69 (.invokevirtual 36) 3 72 := tvDl_get dlk_X5_readForm 36 rfl rfl
theorem dk_X5_readForm_72 : tvD cX5_readForm 72 (.istore_n 2) 1 73 := tvDl_get dlk_X5_readForm 37 rfl rfl
theorem dk_X5_readForm_73 : tvD cX5_readForm 73 (.iinc 4 1) 3 76 := tvDl_get dlk_X5_readForm 38 rfl rfl
theorem dk_X5_readForm_76 : tvJ cX5_readForm 76 .goto 7 79 := tvJl_get dlk_X5_readForm 39 rfl (by decide) rfl
theorem dk_X5_readForm_79 : tvD cX5_readForm 79 (.iload_n 2) 1 80 := tvDl_get dlk_X5_readForm 40 rfl rfl
theorem dk_X5_readForm_80 : tvD cX5_readForm 80 (.ireturn) 1 81 := tvDl_get dlk_X5_readForm 41 rfl rfl
def dl_X5_readNumber : List (Nat × Instr × Nat) := [(0, .iconst 0, 1), (1, .istore_n 3, 1), (2, .iconst 0, 1), (3, .istore 4, 2), (5, .iload 4, 2), (7, .iload_n 2, 1), (8, .if_icmp .ge 53, 3), (11, .aload_n 0, 1), (12, .getfield 26, 3), (15, .aload_n 0, 1), (16, .getfield 22, 3), (19, .if_icmp .ge 42, 3), (22, .aload_n 0, 1), (23, .invokevirtual 48, 3), (26, .invokestatic 90, 3), (29, .ifCond .eq 32, 3), (32, .iload_n 3, 1), (33, .bipush 10, 2), (35, .imul, 1), (36, .aload_n 0, 1), (37, .invokevirtual 48, 3), (40, .bipush 48, 2), (42, .isub, 1), (43, .iadd, 1), (44, .istore_n 3, 1), (45, .iinc 4 1, 3), (48, .aload_n 0, 1), (49, .dup, 1), (50, .getfield 26, 3), (53, .iconst 1, 1), (54, .iadd, 1), (55, .putfield 26, 3), (58, .goto (-53), 3), (61, .aload_n 0, 1), (62, .iload_n 1, 1), (63, .iload_n 3, 1), (64, .invokevirtual 44, 3), (67, .iload 4, 2), (69, .ifCond .le 7, 3), (72, .iconst 1, 1), (73, .goto 4, 3), (76, .iconst 0, 1), (77, .ireturn, 1)]
theorem dlk_X5_readNumber : tvDl cX5_readNumber dl_X5_readNumber = true := by decide +kernel
theorem dk_X5_readNumber_0 : tvD cX5_readNumber 0 (.iconst 0) 1 1 := tvDl_get dlk_X5_readNumber 0 rfl rfl
theorem dk_X5_readNumber_1 : tvD cX5_readNumber 1 (.istore_n 3) 1 2 := tvDl_get dlk_X5_readNumber 1 rfl rfl
theorem dk_X5_readNumber_2 : tvD cX5_readNumber 2 (.iconst 0) 1 3 := tvDl_get dlk_X5_readNumber 2 rfl rfl
theorem dk_X5_readNumber_3 : tvD cX5_readNumber 3 (.istore 4) 2 5 := tvDl_get dlk_X5_readNumber 3 rfl rfl
theorem dk_X5_readNumber_5 : tvD cX5_readNumber 5 (.iload 4) 2 7 := tvDl_get dlk_X5_readNumber 4 rfl rfl
theorem dk_X5_readNumber_7 : tvD cX5_readNumber 7 (.iload_n 2) 1 8 := tvDl_get dlk_X5_readNumber 5 rfl rfl
theorem dk_X5_readNumber_8 : tvJ cX5_readNumber 8 (.if_icmp .ge) 61 11 := tvJl_get dlk_X5_readNumber 6 rfl (by decide) rfl
theorem dk_X5_readNumber_11 : tvD cX5_readNumber 11 (.aload_n 0) 1 12 := tvDl_get dlk_X5_readNumber 7 rfl rfl
theorem dk_X5_readNumber_12 : tvD cX5_readNumber 12 (.getfield 26) 3 15 := tvDl_get dlk_X5_readNumber 8 rfl rfl
theorem dk_X5_readNumber_15 : tvD cX5_readNumber 15 (.aload_n 0) 1 16 := tvDl_get dlk_X5_readNumber 9 rfl rfl
theorem dk_X5_readNumber_16 : tvD cX5_readNumber 16 (.getfield 22) 3 19 := tvDl_get dlk_X5_readNumber 10 rfl rfl
theorem dk_X5_readNumber_19 : tvJ cX5_readNumber 19 (.if_icmp .ge) 61 22 := tvJl_get dlk_X5_readNumber 11 rfl (by decide) rfl
theorem dk_X5_readNumber_22 : tvD cX5_readNumber 22 (.aload_n 0) 1 23 := tvDl_get dlk_X5_readNumber 12 rfl rfl
theorem dk_X5_readNumber_23 : tvD cX5_readNumber 23 (.invokevirtual 48) 3 26 := tvDl_get dlk_X5_readNumber 13 rfl rfl
theorem dk_X5_readNumber_26 : tvD cX5_readNumber 26 (.invokestatic 90) 3 29 := tvDl_get dlk_X5_readNumber 14 rfl rfl
theorem dk_X5_readNumber_29 : tvJ cX5_readNumber 29 (.ifCond .eq) 61 32 := tvJl_get dlk_X5_readNumber 15 rfl (by decide) rfl
theorem dk_X5_readNumber_32 : tvD cX5_readNumber 32 (.iload_n 3) 1 33 := tvDl_get dlk_X5_readNumber 16 rfl rfl
theorem dk_X5_readNumber_33 : tvD cX5_readNumber 33 (.bipush 10) 2 35 := tvDl_get dlk_X5_readNumber 17 rfl rfl
theorem dk_X5_readNumber_35 : tvD cX5_readNumber 35 (.imul) 1 36 := tvDl_get dlk_X5_readNumber 18 rfl rfl
theorem dk_X5_readNumber_36 : tvD cX5_readNumber 36 (.aload_n 0) 1 37 := tvDl_get dlk_X5_readNumber 19 rfl rfl
theorem dk_X5_readNumber_37 : tvD cX5_readNumber 37 (.invokevirtual 48) 3 40 := tvDl_get dlk_X5_readNumber 20 rfl rfl
theorem dk_X5_readNumber_40 : tvD cX5_readNumber 40 (.bipush 48) 2 42 := tvDl_get dlk_X5_readNumber 21 rfl rfl
theorem dk_X5_readNumber_42 : tvD cX5_readNumber 42 (.isub) 1 43 := tvDl_get dlk_X5_readNumber 22 rfl rfl
theorem dk_X5_readNumber_43 : tvD cX5_readNumber 43 (.iadd) 1 44 := tvDl_get dlk_X5_readNumber 23 rfl rfl
theorem dk_X5_readNumber_44 : tvD cX5_readNumber 44 (.istore_n 3) 1 45 := tvDl_get dlk_X5_readNumber 24 rfl rfl
theorem dk_X5_readNumber_45 : tvD cX5_readNumber 45 (.iinc 4 1) 3 48 := tvDl_get dlk_X5_readNumber 25 rfl rfl
theorem dk_X5_readNumber_48 : tvD cX5_readNumber 48 (.aload_n 0) 1 49 := tvDl_get dlk_X5_readNumber 26 rfl rfl
theorem dk_X5_readNumber_49 : tvD cX5_readNumber 49 (.dup) 1 50 := tvDl_get dlk_X5_readNumber 27 rfl rfl
theorem dk_X5_readNumber_50 : tvD cX5_readNumber 50 (.getfield 26) 3 53 := tvDl_get dlk_X5_readNumber 28 rfl rfl
theorem dk_X5_readNumber_53 : tvD cX5_readNumber 53 (.iconst 1) 1 54 := tvDl_get dlk_X5_readNumber 29 rfl rfl
theorem dk_X5_readNumber_54 : tvD cX5_readNumber 54 (.iadd) 1 55 := tvDl_get dlk_X5_readNumber 30 rfl rfl
theorem dk_X5_readNumber_55 : tvD cX5_readNumber 55 (.putfield 26) 3 58 := tvDl_get dlk_X5_readNumber 31 rfl rfl
theorem dk_X5_readNumber_58 : tvJ cX5_readNumber 58 .goto 5 61 := tvJl_get dlk_X5_readNumber 32 rfl (by decide) rfl
theorem dk_X5_readNumber_61 : tvD cX5_readNumber 61 (.aload_n 0) 1 62 := tvDl_get dlk_X5_readNumber 33 rfl rfl
theorem dk_X5_readNumber_62 : tvD cX5_readNumber 62 (.iload_n 1) 1 63 := tvDl_get dlk_X5_readNumber 34 rfl rfl
theorem dk_X5_readNumber_63 : tvD cX5_readNumber 63 (.iload_n 3) 1 64 := tvDl_get dlk_X5_readNumber 35 rfl rfl
theorem dk_X5_readNumber_64 : tvD cX5_readNumber 64 (.invokevirtual 44) 3 67 := tvDl_get dlk_X5_readNumber 36 rfl rfl
theorem dk_X5_readNumber_67 : tvD cX5_readNumber 67 (.iload 4) 2 69 := tvDl_get dlk_X5_readNumber 37 rfl rfl
theorem dk_X5_readNumber_69 : tvJ cX5_readNumber 69 (.ifCond .le) 76 72 := tvJl_get dlk_X5_readNumber 38 rfl (by decide) rfl
theorem dk_X5_readNumber_72 : tvD cX5_readNumber 72 (.iconst 1) 1 73 := tvDl_get dlk_X5_readNumber 39 rfl rfl
theorem dk_X5_readNumber_73 : tvJ cX5_readNumber 73 .goto 77 76 := tvJl_get dlk_X5_readNumber 40 rfl (by decide) rfl
theorem dk_X5_readNumber_76 : tvD cX5_readNumber 76 (.iconst 0) 1 77 := tvDl_get dlk_X5_readNumber 41 rfl rfl
theorem dk_X5_readNumber_77 : tvD cX5_readNumber 77 (.ireturn) 1 78 := tvDl_get dlk_X5_readNumber 42 rfl rfl
def dl_X5_readVerb : List (Nat × Instr × Nat) := [(0, .iconst 0, 1), (1, .istore_n 1, 1), (2, .iconst 0, 1), (3, .istore_n 2, 1), (4, .iload_n 2, 1), (5, .bipush 9, 2), (7, .if_icmp .ge 50, 3), (10, .iload_n 2, 1), (11, .invokestatic 62, 3), (14, .astore_n 3, 1), (15, .aload_n 0, 1), (16, .aload_n 3, 1), (17, .invokevirtual 65, 3), (20, .istore 4, 2), (22, .iload 4, 2), (24, .aload_n 3, 1), (25, .invokevirtual 69, 3), (28, .if_icmp .ne 16, 3), (31, .aload_n 0, 1), (32, .dup, 1), (33, .getfield 26, 3), (36, .iload 4, 2), (38, .iadd, 1), (39, .putfield 26, 3), (42, .iload_n 2, 1), (43, .ireturn, 1), (44, .iload_n 1, 1), (45, .iload 4, 2), (47, .invokestatic 73, 3), (50, .istore_n 1, 1), (51, .iinc 2 1, 3), (54, .goto (-50), 3), (57, .aload_n 0, 1), (58, .dup, 1), (59, .getfield 26, 3), (62, .iload_n 1, 1), (63, .iadd, 1), (64, .putfield 26, 3), (67, .iconst (-1), 1), (68, .ireturn, 1)]
theorem dlk_X5_readVerb : tvDl cX5_readVerb dl_X5_readVerb = true := by decide +kernel
theorem dk_X5_readVerb_0 : tvD cX5_readVerb 0 (.iconst 0) 1 1 := tvDl_get dlk_X5_readVerb 0 rfl rfl
theorem dk_X5_readVerb_1 : tvD cX5_readVerb 1 (.istore_n 1) 1 2 := tvDl_get dlk_X5_readVerb 1 rfl rfl
theorem dk_X5_readVerb_2 : tvD cX5_readVerb 2 (.iconst 0) 1 3 := tvDl_get dlk_X5_readVerb 2 rfl rfl
theorem dk_X5_readVerb_3 : tvD cX5_readVerb 3 (.istore_n 2) 1 4 := tvDl_get dlk_X5_readVerb 3 rfl rfl
theorem dk_X5_readVerb_4 : tvD cX5_readVerb 4 (.iload_n 2) 1 5 := tvDl_get dlk_X5_readVerb 4 rfl rfl
theorem dk_X5_readVerb_5 : tvD cX5_readVerb 5 (.bipush 9) 2 7 := tvDl_get dlk_X5_readVerb 5 rfl rfl
theorem dk_X5_readVerb_7 : tvJ cX5_readVerb 7 (.if_icmp .ge) 57 10 := tvJl_get dlk_X5_readVerb 6 rfl (by decide) rfl
theorem dk_X5_readVerb_10 : tvD cX5_readVerb 10 (.iload_n 2) 1 11 := tvDl_get dlk_X5_readVerb 7 rfl rfl
theorem dk_X5_readVerb_11 : tvD cX5_readVerb 11 (.invokestatic 62) 3 14 := tvDl_get dlk_X5_readVerb 8 rfl rfl
theorem dk_X5_readVerb_14 : tvD cX5_readVerb 14 (.astore_n 3) 1 15 := tvDl_get dlk_X5_readVerb 9 rfl rfl
theorem dk_X5_readVerb_15 : tvD cX5_readVerb 15 (.aload_n 0) 1 16 := tvDl_get dlk_X5_readVerb 10 rfl rfl
theorem dk_X5_readVerb_16 : tvD cX5_readVerb 16 (.aload_n 3) 1 17 := tvDl_get dlk_X5_readVerb 11 rfl rfl
theorem dk_X5_readVerb_17 : tvD cX5_readVerb 17 (.invokevirtual 65) 3 20 := tvDl_get dlk_X5_readVerb 12 rfl rfl
theorem dk_X5_readVerb_20 : tvD cX5_readVerb 20 (.istore 4) 2 22 := tvDl_get dlk_X5_readVerb 13 rfl rfl
theorem dk_X5_readVerb_22 : tvD cX5_readVerb 22 (.iload 4) 2 24 := tvDl_get dlk_X5_readVerb 14 rfl rfl
theorem dk_X5_readVerb_24 : tvD cX5_readVerb 24 (.aload_n 3) 1 25 := tvDl_get dlk_X5_readVerb 15 rfl rfl
theorem dk_X5_readVerb_25 : tvD cX5_readVerb 25 (.invokevirtual 69) 3 28 := tvDl_get dlk_X5_readVerb 16 rfl rfl
theorem dk_X5_readVerb_28 : tvJ cX5_readVerb 28 (.if_icmp .ne) 44 31 := tvJl_get dlk_X5_readVerb 17 rfl (by decide) rfl
theorem dk_X5_readVerb_31 : tvD cX5_readVerb 31 (.aload_n 0) 1 32 := tvDl_get dlk_X5_readVerb 18 rfl rfl
theorem dk_X5_readVerb_32 : tvD cX5_readVerb 32 (.dup) 1 33 := tvDl_get dlk_X5_readVerb 19 rfl rfl
theorem dk_X5_readVerb_33 : tvD cX5_readVerb 33 (.getfield 26) 3 36 := tvDl_get dlk_X5_readVerb 20 rfl rfl
theorem dk_X5_readVerb_36 : tvD cX5_readVerb 36 (.iload 4) 2 38 := tvDl_get dlk_X5_readVerb 21 rfl rfl
theorem dk_X5_readVerb_38 : tvD cX5_readVerb 38 (.iadd) 1 39 := tvDl_get dlk_X5_readVerb 22 rfl rfl
theorem dk_X5_readVerb_39 : tvD cX5_readVerb 39 (.putfield 26) 3 42 := tvDl_get dlk_X5_readVerb 23 rfl rfl
theorem dk_X5_readVerb_42 : tvD cX5_readVerb 42 (.iload_n 2) 1 43 := tvDl_get dlk_X5_readVerb 24 rfl rfl
theorem dk_X5_readVerb_43 : tvD cX5_readVerb 43 (.ireturn) 1 44 := tvDl_get dlk_X5_readVerb 25 rfl rfl
theorem dk_X5_readVerb_44 : tvD cX5_readVerb 44 (.iload_n 1) 1 45 := tvDl_get dlk_X5_readVerb 26 rfl rfl
theorem dk_X5_readVerb_45 : tvD cX5_readVerb 45 (.iload 4) 2 47 := tvDl_get dlk_X5_readVerb 27 rfl rfl
theorem dk_X5_readVerb_47 : tvD cX5_readVerb 47 (.invokestatic 73) 3 50 := tvDl_get dlk_X5_readVerb 28 rfl rfl
theorem dk_X5_readVerb_50 : tvD cX5_readVerb 50 (.istore_n 1) 1 51 := tvDl_get dlk_X5_readVerb 29 rfl rfl
theorem dk_X5_readVerb_51 : tvD cX5_readVerb 51 (.iinc 2 1) 3 54 := tvDl_get dlk_X5_readVerb 30 rfl rfl
theorem dk_X5_readVerb_54 : tvJ cX5_readVerb 54 .goto 4 57 := tvJl_get dlk_X5_readVerb 31 rfl (by decide) rfl
theorem dk_X5_readVerb_57 : tvD cX5_readVerb 57 (.aload_n 0) 1 58 := tvDl_get dlk_X5_readVerb 32 rfl rfl
theorem dk_X5_readVerb_58 : tvD cX5_readVerb 58 (.dup) 1 59 := tvDl_get dlk_X5_readVerb 33 rfl rfl
theorem dk_X5_readVerb_59 : tvD cX5_readVerb 59 (.getfield 26) 3 62 := tvDl_get dlk_X5_readVerb 34 rfl rfl
theorem dk_X5_readVerb_62 : tvD cX5_readVerb 62 (.iload_n 1) 1 63 := tvDl_get dlk_X5_readVerb 35 rfl rfl
theorem dk_X5_readVerb_63 : tvD cX5_readVerb 63 (.iadd) 1 64 := tvDl_get dlk_X5_readVerb 36 rfl rfl
theorem dk_X5_readVerb_64 : tvD cX5_readVerb 64 (.putfield 26) 3 67 := tvDl_get dlk_X5_readVerb 37 rfl rfl
theorem dk_X5_readVerb_67 : tvD cX5_readVerb 67 (.iconst (-1)) 1 68 := tvDl_get dlk_X5_readVerb 38 rfl rfl
theorem dk_X5_readVerb_68 : tvD cX5_readVerb 68 (.ireturn) 1 69 := tvDl_get dlk_X5_readVerb 39 rfl rfl
