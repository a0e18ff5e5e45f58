theorem fl_RX8_39 : tvFl RX8 39 8 5 := ⟨_, _, _, rfl, by decide, rfl, tvIn_8, rfl, Or.inl (tvgc (tvc_3 (List.mem_of_getElem? (i := 228) (by decide +kernel))) rfl)⟩
theorem fl_RX8_291 : tvFl RX8 291 3 1 := ⟨_, _, _, rfl, by decide, rfl, tvIn_3, rfl, Or.inr ⟨"TideVault", tvn 724 (by decide +kernel) rfl⟩⟩
theorem ml_RX8_276 : Cond.methodLink RX8 276 yX8_doOpeningsAgree ∈ tvGW := tvgc (tvc_7 (List.mem_of_getElem? (i := 40) (by decide +kernel))) rfl
theorem ml_RX8_279 : Cond.methodLink RX8 279 yX6_doLowMinutesAgree ∈ tvGW := tvgc (tvc_7 (List.mem_of_getElem? (i := 50) (by decide +kernel))) rfl
theorem ml_RX8_282 : Cond.methodLink RX8 282 yX3_empty ∈ tvGW := tvgc (tvc_1 (List.mem_of_getElem? (i := 208) (by decide +kernel))) rfl
theorem ml_RX8_285 : Cond.methodLink RX8 285 yX3_addNumber ∈ tvGW := tvgc (tvc_1 (List.mem_of_getElem? (i := 212) (by decide +kernel))) rfl
theorem ml_RX8_288 : Cond.methodLink RX8 288 yX3_add ∈ tvGW := tvgc (tvc_1 (List.mem_of_getElem? (i := 225) (by decide +kernel))) rfl
theorem ml_RX8_386 : Cond.methodLink RX8 386 yX0_countIn ∈ tvGW := tvgc (tvc_7 (List.mem_of_getElem? (i := 44) (by decide +kernel))) rfl
theorem ml_RX8_389 : Cond.methodLink RX8 389 yX6_minute ∈ tvGW := tvgc (tvc_7 (List.mem_of_getElem? (i := 48) (by decide +kernel))) rfl
theorem ml_RX8_392 : Cond.methodLink RX8 392 yX6_hasJustOpened ∈ tvGW := tvgc (tvc_7 (List.mem_of_getElem? (i := 49) (by decide +kernel))) rfl
theorem yk_X8_doOpeningsAgree : tvYk yX8_doOpeningsAgree cX8_doOpeningsAgree 4 (some .boolean) 0 := ⟨tvgc (tvc_7 (List.mem_of_getElem? (i := 43) (by decide +kernel))) rfl, tvgc (tvc_1 (List.mem_of_getElem? (i := 1) (by decide +kernel))) rfl, by decide +kernel, by decide +kernel, plainFor_of_name (by decide +kernel)⟩
theorem yi_X8_doOpeningsAgree : tvYi yX8_doOpeningsAgree := ⟨tvgc (tvc_7 (List.mem_of_getElem? (i := 42) (by decide +kernel))) rfl, tvg 26 (by decide +kernel) rfl⟩
theorem yk_X8_isConsistent : tvYk yX8_isConsistent cX8_isConsistent 1 (some .boolean) 0 := ⟨tvgc (tvc_7 (List.mem_of_getElem? (i := 39) (by decide +kernel))) rfl, tvgc (tvc_1 (List.mem_of_getElem? (i := 1) (by decide +kernel))) rfl, by decide +kernel, by decide +kernel, plainFor_of_name (by decide +kernel)⟩
theorem yi_X8_isConsistent : tvYi yX8_isConsistent := ⟨tvgc (tvc_7 (List.mem_of_getElem? (i := 37) (by decide +kernel))) rfl, tvgc (tvc_7 (List.mem_of_getElem? (i := 38) (by decide +kernel))) rfl⟩
theorem yk_X8_writeBox : tvYk yX8_writeBox cX8_writeBox 3 (some .int) 1 := ⟨tvgc (tvc_1 (List.mem_of_getElem? (i := 199) (by decide +kernel))) rfl, tvgc (tvc_1 (List.mem_of_getElem? (i := 1) (by decide +kernel))) rfl, by decide +kernel, by decide +kernel, plainFor_of_name (by decide +kernel)⟩
theorem yi_X8_writeBox : tvYi yX8_writeBox := ⟨tvgc (tvc_1 (List.mem_of_getElem? (i := 197) (by decide +kernel))) rfl, tvgc (tvc_1 (List.mem_of_getElem? (i := 198) (by decide +kernel))) rfl⟩
theorem yk_X8_writeEvents : tvYk yX8_writeEvents cX8_writeEvents 2 (some .int) 0 := ⟨tvgc (tvc_1 (List.mem_of_getElem? (i := 237) (by decide +kernel))) rfl, tvgc (tvc_1 (List.mem_of_getElem? (i := 1) (by decide +kernel))) rfl, by decide +kernel, by decide +kernel, plainFor_of_name (by decide +kernel)⟩
theorem yi_X8_writeEvents : tvYi yX8_writeEvents := ⟨tvgc (tvc_1 (List.mem_of_getElem? (i := 235) (by decide +kernel))) rfl, tvgc (tvc_1 (List.mem_of_getElem? (i := 236) (by decide +kernel))) rfl⟩
def dl_X8_doOpeningsAgree : List (Nat × Instr × Nat) := [(0, .aload_n 0, 1), (1, .getfield 16, 3), (4, .aload_n 0, 1), (5, .getfield 12, 3), (8, .invokevirtual 206, 3), (11, .aload_n 0, 1), (12, .getfield 12, 3), (15, .getfield 75, 3), (18, .bipush 112, 2), (20, .invokevirtual 386, 3), (23, .istore_n 1, 1), (24, .iconst 1, 1), (25, .istore_n 2, 1), (26, .iload_n 1, 1), (27, .ifCond .le 76, 3), (30, .iload_n 2, 1), (31, .sipush 3840, 3), (34, .if_icmp .gt 69, 3), (37, .aload_n 0, 1), (38, .getfield 16, 3), (41, .invokevirtual 389, 3), (44, .ifCond .le 53, 3), (47, .iconst 0, 1), (48, .istore_n 3, 1), (49, .iload_n 3, 1), (50, .aload_n 0, 1), (51, .getfield 12, 3), (54, .getfield 75, 3), (57, .getfield 171, 3), (60, .if_icmp .ge 37, 3), (63, .aload_n 0, 1), (64, .getfield 16, 3), (67, .iload_n 3, 1), (68, .invokevirtual 392, 3), (71, .ifCond .eq 20, 3), (74, .aload_n 0, 1), (75, .getfield 12, 3), (78, .iload_n 3, 1), (79, .invokevirtual 203, 3), (82, .iload_n 2, 1), (83, .if_icmp .eq 5, 3), (86, .iconst 0, 1), (87, .ireturn, 1), (88, .iinc 1 (-1), 3), (91, .iinc 3 1, 3), (94, .goto (-45), 3), (97, .iinc 2 1, 3), (100, .goto (-74), 3), (103, .iload_n 1, 1), (104, .ifCond .ne 7, 3), (107, .iconst 1, 1), (108, .goto 4, 3), (111, .iconst 0, 1), (112, .ireturn, 1)]
theorem dlk_X8_doOpeningsAgree : tvDl cX8_doOpeningsAgree dl_X8_doOpeningsAgree = true := by decide +kernel
theorem dk_X8_doOpeningsAgree_0 : tvD cX8_doOpeningsAgree 0 (.aload_n 0) 1 1 := tvDl_get dlk_X8_doOpeningsAgree 0 rfl rfl
theorem dk_X8_doOpeningsAgree_1 : tvD cX8_doOpeningsAgree 1 (.getfield 16) 3 4 := tvDl_get dlk_X8_doOpeningsAgree 1 rfl rfl
theorem dk_X8_doOpeningsAgree_4 : tvD cX8_doOpeningsAgree 4 (.aload_n 0) 1 5 := tvDl_get dlk_X8_doOpeningsAgree 2 rfl rfl
theorem dk_X8_doOpeningsAgree_5 : tvD cX8_doOpeningsAgree 5 (.getfield 12) 3 8 := tvDl_get dlk_X8_doOpeningsAgree 3 rfl rfl
theorem dk_X8_doOpeningsAgree_8 : tvD cX8_doOpeningsAgree 8 (.invokevirtual 206) 3 11 := tvDl_get dlk_X8_doOpeningsAgree 4 rfl rfl
theorem dk_X8_doOpeningsAgree_11 : tvD cX8_doOpeningsAgree 11 (.aload_n 0) 1 12 := tvDl_get dlk_X8_doOpeningsAgree 5 rfl rfl
theorem dk_X8_doOpeningsAgree_12 : tvD cX8_doOpeningsAgree 12 (.getfield 12) 3 15 := tvDl_get dlk_X8_doOpeningsAgree 6 rfl rfl
theorem dk_X8_doOpeningsAgree_15 : tvD cX8_doOpeningsAgree 15 (.getfield 75) 3 18 := tvDl_get dlk_X8_doOpeningsAgree 7 rfl rfl
theorem dk_X8_doOpeningsAgree_18 : tvD cX8_doOpeningsAgree 18 (.bipush 112) 2 20 := tvDl_get dlk_X8_doOpeningsAgree 8 rfl rfl
theorem dk_X8_doOpeningsAgree_20 : tvD cX8_doOpeningsAgree 20 (.invokevirtual 386) 3 23 := tvDl_get dlk_X8_doOpeningsAgree 9 rfl rfl
theorem dk_X8_doOpeningsAgree_23 : tvD cX8_doOpeningsAgree 23 (.istore_n 1) 1 24 := tvDl_get dlk_X8_doOpeningsAgree 10 rfl rfl
theorem dk_X8_doOpeningsAgree_24 : tvD cX8_doOpeningsAgree 24 (.iconst 1) 1 25 := tvDl_get dlk_X8_doOpeningsAgree 11 rfl rfl
theorem dk_X8_doOpeningsAgree_25 : tvD cX8_doOpeningsAgree 25 (.istore_n 2) 1 26 := tvDl_get dlk_X8_doOpeningsAgree 12 rfl rfl
theorem dk_X8_doOpeningsAgree_26 : tvD cX8_doOpeningsAgree 26 (.iload_n 1) 1 27 := tvDl_get dlk_X8_doOpeningsAgree 13 rfl rfl
theorem dk_X8_doOpeningsAgree_27 : tvJ cX8_doOpeningsAgree 27 (.ifCond .le) 103 30 := tvJl_get dlk_X8_doOpeningsAgree 14 rfl (by decide) rfl
theorem dk_X8_doOpeningsAgree_30 : tvD cX8_doOpeningsAgree 30 (.iload_n 2) 1 31 := tvDl_get dlk_X8_doOpeningsAgree 15 rfl rfl
theorem dk_X8_doOpeningsAgree_31 : tvD cX8_doOpeningsAgree 31 (.sipush 3840) 3 34 := tvDl_get dlk_X8_doOpeningsAgree 16 rfl rfl
theorem dk_X8_doOpeningsAgree_34 : tvJ cX8_doOpeningsAgree 34 (.if_icmp .gt) 103 37 := tvJl_get dlk_X8_doOpeningsAgree 17 rfl (by decide) rfl
theorem dk_X8_doOpeningsAgree_37 : tvD cX8_doOpeningsAgree 37 (.aload_n 0) 1 38 := tvDl_get dlk_X8_doOpeningsAgree 18 rfl rfl
theorem dk_X8_doOpeningsAgree_38 : tvD cX8_doOpeningsAgree 38 (.getfield 16) 3 41 := tvDl_get dlk_X8_doOpeningsAgree 19 rfl rfl
theorem dk_X8_doOpeningsAgree_41 : tvD cX8_doOpeningsAgree 41 (.invokevirtual 389) 3 44 := tvDl_get dlk_X8_doOpeningsAgree 20 rfl rfl
theorem dk_X8_doOpeningsAgree_44 : tvJ cX8_doOpeningsAgree 44 (.ifCond .le) 97 47 := tvJl_get dlk_X8_doOpeningsAgree 21 rfl (by decide) rfl
theorem dk_X8_doOpeningsAgree_47 : tvD cX8_doOpeningsAgree 47 (.iconst 0) 1 48 := tvDl_get dlk_X8_doOpeningsAgree 22 rfl rfl
theorem dk_X8_doOpeningsAgree_48 : tvD cX8_doOpeningsAgree 48 (.istore_n 3) 1 49 := tvDl_get dlk_X8_doOpeningsAgree 23 rfl rfl
theorem dk_X8_doOpeningsAgree_49 : tvD cX8_doOpeningsAgree 49 (.iload_n 3) 1 50 := tvDl_get dlk_X8_doOpeningsAgree 24 rfl rfl
theorem dk_X8_doOpeningsAgree_50 : tvD cX8_doOpeningsAgree 50 (.aload_n 0) 1 51 := tvDl_get dlk_X8_doOpeningsAgree 25 rfl rfl
theorem dk_X8_doOpeningsAgree_51 : tvD cX8_doOpeningsAgree 51 (.getfield 12) 3 54 := tvDl_get dlk_X8_doOpeningsAgree 26 rfl rfl
theorem dk_X8_doOpeningsAgree_54 : tvD cX8_doOpeningsAgree 54 (.getfield 75) 3 57 := tvDl_get dlk_X8_doOpeningsAgree 27 rfl rfl
theorem dk_X8_doOpeningsAgree_57 : tvD cX8_doOpeningsAgree 57 (.getfield 171) 3 60 := tvDl_get dlk_X8_doOpeningsAgree 28 rfl rfl
theorem dk_X8_doOpeningsAgree_60 : tvJ cX8_doOpeningsAgree 60 (.if_icmp .ge) 97 63 := tvJl_get dlk_X8_doOpeningsAgree 29 rfl (by decide) rfl
theorem dk_X8_doOpeningsAgree_63 : tvD cX8_doOpeningsAgree 63 (.aload_n 0) 1 64 := tvDl_get dlk_X8_doOpeningsAgree 30 rfl rfl
theorem dk_X8_doOpeningsAgree_64 : tvD cX8_doOpeningsAgree 64 (.getfield 16) 3 67 := tvDl_get dlk_X8_doOpeningsAgree 31 rfl rfl
theorem dk_X8_doOpeningsAgree_67 : tvD cX8_doOpeningsAgree 67 (.iload_n 3) 1 68 := tvDl_get dlk_X8_doOpeningsAgree 32 rfl rfl
theorem dk_X8_doOpeningsAgree_68 : tvD cX8_doOpeningsAgree 68 (.invokevirtual 392) 3 71 := tvDl_get dlk_X8_doOpeningsAgree 33 rfl rfl
theorem dk_X8_doOpeningsAgree_71 : tvJ cX8_doOpeningsAgree 71 (.ifCond .eq) 91 74 := tvJl_get dlk_X8_doOpeningsAgree 34 rfl (by decide) rfl
theorem dk_X8_doOpeningsAgree_74 : tvD cX8_doOpeningsAgree 74 (.aload_n 0) 1 75 := tvDl_get dlk_X8_doOpeningsAgree 35 rfl rfl
theorem dk_X8_doOpeningsAgree_75 : tvD cX8_doOpeningsAgree 75 (.getfield 12) 3 78 := tvDl_get dlk_X8_doOpeningsAgree 36 rfl rfl
theorem dk_X8_doOpeningsAgree_78 : tvD cX8_doOpeningsAgree 78 (.iload_n 3) 1 79 := tvDl_get dlk_X8_doOpeningsAgree 37 rfl rfl
theorem dk_X8_doOpeningsAgree_79 : tvD cX8_doOpeningsAgree 79 (.invokevirtual 203) 3 82 := tvDl_get dlk_X8_doOpeningsAgree 38 rfl rfl
theorem dk_X8_doOpeningsAgree_82 : tvD cX8_doOpeningsAgree 82 (.iload_n 2) 1 83 := tvDl_get dlk_X8_doOpeningsAgree 39 rfl rfl
theorem dk_X8_doOpeningsAgree_83 : tvJ cX8_doOpeningsAgree 83 (.if_icmp .eq) 88 86 := tvJl_get dlk_X8_doOpeningsAgree 40 rfl (by decide) rfl
theorem dk_X8_doOpeningsAgree_86 : tvD cX8_doOpeningsAgree 86 (.iconst 0) 1 87 := tvDl_get dlk_X8_doOpeningsAgree 41 rfl rfl
theorem dk_X8_doOpeningsAgree_87 : tvD cX8_doOpeningsAgree 87 (.ireturn) 1 88 := tvDl_get dlk_X8_doOpeningsAgree 42 rfl rfl
theorem dk_X8_doOpeningsAgree_88 : tvD cX8_doOpeningsAgree 88 (.iinc 1 (-1)) 3 91 := tvDl_get dlk_X8_doOpeningsAgree 43 rfl rfl
theorem dk_X8_doOpeningsAgree_91 : tvD cX8_doOpeningsAgree 91 (.iinc 3 1) 3 94 := tvDl_get dlk_X8_doOpeningsAgree 44 rfl rfl
theorem dk_X8_doOpeningsAgree_94 : tvJ cX8_doOpeningsAgree 94 .goto 49 97 := tvJl_get dlk_X8_doOpeningsAgree 45 rfl (by decide) rfl
theorem dk_X8_doOpeningsAgree_97 : tvD cX8_doOpeningsAgree 97 (.iinc 2 1) 3 100 := tvDl_get dlk_X8_doOpeningsAgree 46 rfl rfl
theorem dk_X8_doOpeningsAgree_100 : tvJ cX8_doOpeningsAgree 100 .goto 26 103 := tvJl_get dlk_X8_doOpeningsAgree 47 rfl (by decide) rfl
theorem dk_X8_doOpeningsAgree_103 : tvD cX8_doOpeningsAgree 103 (.iload_n 1) 1 104 := tvDl_get dlk_X8_doOpeningsAgree 48 rfl rfl
theorem dk_X8_doOpeningsAgree_104 : tvJ cX8_doOpeningsAgree 104 (.ifCond .ne) 111 107 := tvJl_get dlk_X8_doOpeningsAgree 49 rfl (by decide) rfl
theorem dk_X8_doOpeningsAgree_107 : tvD cX8_doOpeningsAgree 107 (.iconst 1) 1 108 := tvDl_get dlk_X8_doOpeningsAgree 50 rfl rfl
theorem dk_X8_doOpeningsAgree_108 : tvJ cX8_doOpeningsAgree 108 .goto 112 111 := tvJl_get dlk_X8_doOpeningsAgree 51 rfl (by decide) rfl
theorem dk_X8_doOpeningsAgree_111 : tvD cX8_doOpeningsAgree 111 (.iconst 0) 1 112 := tvDl_get dlk_X8_doOpeningsAgree 52 rfl rfl
theorem dk_X8_doOpeningsAgree_112 : tvD cX8_doOpeningsAgree 112 (.ireturn) 1 113 := tvDl_get dlk_X8_doOpeningsAgree 53 rfl rfl
def dl_X8_isConsistent : List (Nat × Instr × Nat) := [(0, .aload_n 0, 1), (1, .invokevirtual 276, 3), (4, .ifCond .eq 38, 3), (7, .aload_n 0, 1), (8, .getfield 12, 3), (11, .invokevirtual 279, 3), (14, .ifCond .eq 28, 3), (17, .aload_n 0, 1), (18, .getfield 12, 3), (21, .getfield 75, 3), (24, .invokevirtual 232, 3), (27, .aload_n 0, 1), (28, .getfield 12, 3), (31, .getfield 236, 3), (34, .lcmp, 1), (35, .ifCond .ne 7, 3), (38, .iconst 1, 1), (39, .goto 4, 3), (42, .iconst 0, 1), (43, .ireturn, 1)]
theorem dlk_X8_isConsistent : tvDl cX8_isConsistent dl_X8_isConsistent = true := by decide +kernel
theorem dk_X8_isConsistent_0 : tvD cX8_isConsistent 0 (.aload_n 0) 1 1 := tvDl_get dlk_X8_isConsistent 0 rfl rfl
theorem dk_X8_isConsistent_1 : tvD cX8_isConsistent 1 (.invokevirtual 276) 3 4 := tvDl_get dlk_X8_isConsistent 1 rfl rfl
theorem dk_X8_isConsistent_4 : tvJ cX8_isConsistent 4 (.ifCond .eq) 42 7 := tvJl_get dlk_X8_isConsistent 2 rfl (by decide) rfl
theorem dk_X8_isConsistent_7 : tvD cX8_isConsistent 7 (.aload_n 0) 1 8 := tvDl_get dlk_X8_isConsistent 3 rfl rfl
theorem dk_X8_isConsistent_8 : tvD cX8_isConsistent 8 (.getfield 12) 3 11 := tvDl_get dlk_X8_isConsistent 4 rfl rfl
theorem dk_X8_isConsistent_11 : tvD cX8_isConsistent 11 (.invokevirtual 279) 3 14 := tvDl_get dlk_X8_isConsistent 5 rfl rfl
theorem dk_X8_isConsistent_14 : tvJ cX8_isConsistent 14 (.ifCond .eq) 42 17 := tvJl_get dlk_X8_isConsistent 6 rfl (by decide) rfl
theorem dk_X8_isConsistent_17 : tvD cX8_isConsistent 17 (.aload_n 0) 1 18 := tvDl_get dlk_X8_isConsistent 7 rfl rfl
theorem dk_X8_isConsistent_18 : tvD cX8_isConsistent 18 (.getfield 12) 3 21 := tvDl_get dlk_X8_isConsistent 8 rfl rfl
theorem dk_X8_isConsistent_21 : tvD cX8_isConsistent 21 (.getfield 75) 3 24 := tvDl_get dlk_X8_isConsistent 9 rfl rfl
theorem dk_X8_isConsistent_24 : tvD cX8_isConsistent 24 (.invokevirtual 232) 3 27 := tvDl_get dlk_X8_isConsistent 10 rfl rfl
theorem dk_X8_isConsistent_27 : tvD cX8_isConsistent 27 (.aload_n 0) 1 28 := tvDl_get dlk_X8_isConsistent 11 rfl rfl
theorem dk_X8_isConsistent_28 : tvD cX8_isConsistent 28 (.getfield 12) 3 31 := tvDl_get dlk_X8_isConsistent 12 rfl rfl
theorem dk_X8_isConsistent_31 : tvD cX8_isConsistent 31 (.getfield 236) 3 34 := tvDl_get dlk_X8_isConsistent 13 rfl rfl
theorem dk_X8_isConsistent_34 : tvD cX8_isConsistent 34 (.lcmp) 1 35 := tvDl_get dlk_X8_isConsistent 14 rfl rfl
theorem dk_X8_isConsistent_35 : tvJ cX8_isConsistent 35 (.ifCond .ne) 42 38 := tvJl_get dlk_X8_isConsistent 15 rfl (by decide) rfl
theorem dk_X8_isConsistent_38 : tvD cX8_isConsistent 38 (.iconst 1) 1 39 := tvDl_get dlk_X8_isConsistent 16 rfl rfl
theorem dk_X8_isConsistent_39 : tvJ cX8_isConsistent 39 .goto 43 42 := tvJl_get dlk_X8_isConsistent 17 rfl (by decide) rfl
theorem dk_X8_isConsistent_42 : tvD cX8_isConsistent 42 (.iconst 0) 1 43 := tvDl_get dlk_X8_isConsistent 18 rfl rfl
theorem dk_X8_isConsistent_43 : tvD cX8_isConsistent 43 (.ireturn) 1 44 := tvDl_get dlk_X8_isConsistent 19 rfl rfl
def dl_X8_writeBox : List (Nat × Instr × Nat) := [(0, .aload_n 0, 1), (1, .iload_n 1, 1), (2, .invokevirtual 172, 3), (5, .invokestatic 54, 3), (8, .aload_n 0, 1), (9, .getfield 39, 3), (12, .invokevirtual 282, 3), (15, .aload_n 0, 1), (16, .getfield 39, 3), (19, .iload_n 1, 1), (20, .invokevirtual 285, 3), (23, .aload_n 0, 1), (24, .getfield 39, 3), (27, .aload_n 0, 1), (28, .getfield 12, 3), (31, .getfield 75, 3), (34, .iload_n 1, 1), (35, .invokevirtual 189, 3), (38, .invokevirtual 288, 3), (41, .aload_n 0, 1), (42, .getfield 39, 3), (45, .bipush 58, 2), (47, .invokevirtual 288, 3), (50, .iconst 0, 1), (51, .istore_n 2, 1), (52, .iload_n 2, 1), (53, .aload_n 0, 1), (54, .getfield 12, 3), (57, .getfield 75, 3), (60, .iload_n 1, 1), (61, .invokevirtual 212, 3), (64, .if_icmp .ge 41, 3), (67, .iload_n 2, 1), (68, .ifCond .le 12, 3), (71, .aload_n 0, 1), (72, .getfield 39, 3), (75, .bipush 44, 2), (77, .invokevirtual 288, 3), (80, .aload_n 0, 1), (81, .getfield 39, 3), (84, .aload_n 0, 1), (85, .getfield 12, 3), (88, .getfield 75, 3), (91, .iload_n 1, 1), (92, .iload_n 2, 1), (93, .invokevirtual 220, 3), (96, .invokevirtual 285, 3), (99, .iinc 2 1, 3), (102, .goto (-50), 3), (105, .aload_n 0, 1), (106, .getfield 39, 3), (109, .getfield 291, 3), (112, .ireturn, 1)]
theorem dlk_X8_writeBox : tvDl cX8_writeBox dl_X8_writeBox = true := by decide +kernel
theorem dk_X8_writeBox_0 : tvD cX8_writeBox 0 (.aload_n 0) 1 1 := tvDl_get dlk_X8_writeBox 0 rfl rfl
theorem dk_X8_writeBox_1 : tvD cX8_writeBox 1 (.iload_n 1) 1 2 := tvDl_get dlk_X8_writeBox 1 rfl rfl
theorem dk_X8_writeBox_2 : tvD cX8_writeBox 2 (.invokevirtual 172) 3 5 := tvDl_get dlk_X8_writeBox 2 rfl rfl
theorem dk_X8_writeBox_5 : tvD cX8_writeBox 5 (.invokestatic 54) 3 8 := tvDl_get dlk_X8_writeBox 3 rfl rfl
theorem dk_X8_writeBox_8 : tvD cX8_writeBox 8 (.aload_n 0) 1 9 := tvDl_get dlk_X8_writeBox 4 rfl rfl
theorem dk_X8_writeBox_9 : tvD cX8_writeBox 9 (.getfield 39) 3 12 := tvDl_get dlk_X8_writeBox 5 rfl rfl
theorem dk_X8_writeBox_12 : tvD cX8_writeBox 12 (.invokevirtual 282) 3 15 := tvDl_get dlk_X8_writeBox 6 rfl rfl
theorem dk_X8_writeBox_15 : tvD cX8_writeBox 15 (.aload_n 0) 1 16 := tvDl_get dlk_X8_writeBox 7 rfl rfl
theorem dk_X8_writeBox_16 : tvD cX8_writeBox 16 (.getfield 39) 3 19 := tvDl_get dlk_X8_writeBox 8 rfl rfl
theorem dk_X8_writeBox_19 : tvD cX8_writeBox 19 (.iload_n 1) 1 20 := tvDl_get dlk_X8_writeBox 9 rfl rfl
theorem dk_X8_writeBox_20 : tvD cX8_writeBox 20 (.invokevirtual 285) 3 23 := tvDl_get dlk_X8_writeBox 10 rfl rfl
theorem dk_X8_writeBox_23 : tvD cX8_writeBox 23 (.aload_n 0) 1 24 := tvDl_get dlk_X8_writeBox 11 rfl rfl
theorem dk_X8_writeBox_24 : tvD cX8_writeBox 24 (.getfield 39) 3 27 := tvDl_get dlk_X8_writeBox 12 rfl rfl
theorem dk_X8_writeBox_27 : tvD cX8_writeBox 27 (.aload_n 0) 1 28 := tvDl_get dlk_X8_writeBox 13 rfl rfl
theorem dk_X8_writeBox_28 : tvD cX8_writeBox 28 (.getfield 12) 3 31 := tvDl_get dlk_X8_writeBox 14 rfl rfl
theorem dk_X8_writeBox_31 : tvD cX8_writeBox 31 (.getfield 75) 3 34 := tvDl_get dlk_X8_writeBox 15 rfl rfl
theorem dk_X8_writeBox_34 : tvD cX8_writeBox 34 (.iload_n 1) 1 35 := tvDl_get dlk_X8_writeBox 16 rfl rfl
theorem dk_X8_writeBox_35 : tvD cX8_writeBox 35 (.invokevirtual 189) 3 38 := tvDl_get dlk_X8_writeBox 17 rfl rfl
theorem dk_X8_writeBox_38 : tvD cX8_writeBox 38 (.invokevirtual 288) 3 41 := tvDl_get dlk_X8_writeBox 18 rfl rfl
theorem dk_X8_writeBox_41 : tvD cX8_writeBox 41 (.aload_n 0) 1 42 := tvDl_get dlk_X8_writeBox 19 rfl rfl
theorem dk_X8_writeBox_42 : tvD cX8_writeBox 42 (.getfield 39) 3 45 := tvDl_get dlk_X8_writeBox 20 rfl rfl
theorem dk_X8_writeBox_45 : tvD cX8_writeBox 45 (.bipush 58) 2 47 := tvDl_get dlk_X8_writeBox 21 rfl rfl
theorem dk_X8_writeBox_47 : tvD cX8_writeBox 47 (.invokevirtual 288) 3 50 := tvDl_get dlk_X8_writeBox 22 rfl rfl
theorem dk_X8_writeBox_50 : tvD cX8_writeBox 50 (.iconst 0) 1 51 := tvDl_get dlk_X8_writeBox 23 rfl rfl
theorem dk_X8_writeBox_51 : tvD cX8_writeBox 51 (.istore_n 2) 1 52 := tvDl_get dlk_X8_writeBox 24 rfl rfl
theorem dk_X8_writeBox_52 : tvD cX8_writeBox 52 (.iload_n 2) 1 53 := tvDl_get dlk_X8_writeBox 25 rfl rfl
theorem dk_X8_writeBox_53 : tvD cX8_writeBox 53 (.aload_n 0) 1 54 := tvDl_get dlk_X8_writeBox 26 rfl rfl
theorem dk_X8_writeBox_54 : tvD cX8_writeBox 54 (.getfield 12) 3 57 := tvDl_get dlk_X8_writeBox 27 rfl rfl
theorem dk_X8_writeBox_57 : tvD cX8_writeBox 57 (.getfield 75) 3 60 := tvDl_get dlk_X8_writeBox 28 rfl rfl
theorem dk_X8_writeBox_60 : tvD cX8_writeBox 60 (.iload_n 1) 1 61 := tvDl_get dlk_X8_writeBox 29 rfl rfl
theorem dk_X8_writeBox_61 : tvD cX8_writeBox 61 (.invokevirtual 212) 3 64 := tvDl_get dlk_X8_writeBox 30 rfl rfl
theorem dk_X8_writeBox_64 : tvJ cX8_writeBox 64 (.if_icmp .ge) 105 67 := tvJl_get dlk_X8_writeBox 31 rfl (by decide) rfl
theorem dk_X8_writeBox_67 : tvD cX8_writeBox 67 (.iload_n 2) 1 68 := tvDl_get dlk_X8_writeBox 32 rfl rfl
theorem dk_X8_writeBox_68 : tvJ cX8_writeBox 68 (.ifCond .le) 80 71 := tvJl_get dlk_X8_writeBox 33 rfl (by decide) rfl
theorem dk_X8_writeBox_71 : tvD cX8_writeBox 71 (.aload_n 0) 1 72 := tvDl_get dlk_X8_writeBox 34 rfl rfl
theorem dk_X8_writeBox_72 : tvD cX8_writeBox 72 (.getfield 39) 3 75 := tvDl_get dlk_X8_writeBox 35 rfl rfl
theorem dk_X8_writeBox_75 : tvD cX8_writeBox 75 (.bipush 44) 2 77 := tvDl_get dlk_X8_writeBox 36 rfl rfl
theorem dk_X8_writeBox_77 : tvD cX8_writeBox 77 (.invokevirtual 288) 3 80 := tvDl_get dlk_X8_writeBox 37 rfl rfl
theorem dk_X8_writeBox_80 : tvD cX8_writeBox 80 (.aload_n 0) 1 81 := tvDl_get dlk_X8_writeBox 38 rfl rfl
theorem dk_X8_writeBox_81 : tvD cX8_writeBox 81 (.getfield 39) 3 84 := tvDl_get dlk_X8_writeBox 39 rfl rfl
theorem dk_X8_writeBox_84 : tvD cX8_writeBox 84 (.aload_n 0) 1 85 := tvDl_get dlk_X8_writeBox 40 rfl rfl
theorem dk_X8_writeBox_85 : tvD cX8_writeBox 85 (.getfield 12) 3 88 := tvDl_get dlk_X8_writeBox 41 rfl rfl
theorem dk_X8_writeBox_88 : tvD cX8_writeBox 88 (.getfield 75) 3 91 := tvDl_get dlk_X8_writeBox 42 rfl rfl
theorem dk_X8_writeBox_91 : tvD cX8_writeBox 91 (.iload_n 1) 1 92 := tvDl_get dlk_X8_writeBox 43 rfl rfl
theorem dk_X8_writeBox_92 : tvD cX8_writeBox 92 (.iload_n 2) 1 93 := tvDl_get dlk_X8_writeBox 44 rfl rfl
theorem dk_X8_writeBox_93 : tvD cX8_writeBox 93 (.invokevirtual 220) 3 96 := tvDl_get dlk_X8_writeBox 45 rfl rfl
theorem dk_X8_writeBox_96 : tvD cX8_writeBox 96 (.invokevirtual 285) 3 99 := tvDl_get dlk_X8_writeBox 46 rfl rfl
theorem dk_X8_writeBox_99 : tvD cX8_writeBox 99 (.iinc 2 1) 3 102 := tvDl_get dlk_X8_writeBox 47 rfl rfl
theorem dk_X8_writeBox_102 : tvJ cX8_writeBox 102 .goto 52 105 := tvJl_get dlk_X8_writeBox 48 rfl (by decide) rfl
theorem dk_X8_writeBox_105 : tvD cX8_writeBox 105 (.aload_n 0) 1 106 := tvDl_get dlk_X8_writeBox 49 rfl rfl
theorem dk_X8_writeBox_106 : tvD cX8_writeBox 106 (.getfield 39) 3 109 := tvDl_get dlk_X8_writeBox 50 rfl rfl
theorem dk_X8_writeBox_109 : tvD cX8_writeBox 109 (.getfield 291) 3 112 := tvDl_get dlk_X8_writeBox 51 rfl rfl
theorem dk_X8_writeBox_112 : tvD cX8_writeBox 112 (.ireturn) 1 113 := tvDl_get dlk_X8_writeBox 52 rfl rfl
def dl_X8_writeEvents : List (Nat × Instr × Nat) := [(0, .aload_n 0, 1), (1, .getfield 39, 3), (4, .invokevirtual 282, 3), (7, .iconst 0, 1), (8, .istore_n 1, 1), (9, .iload_n 1, 1), (10, .aload_n 0, 1), (11, .getfield 12, 3), (14, .getfield 257, 3), (17, .getfield 261, 3), (20, .if_icmp .ge 58, 3), (23, .iload_n 1, 1), (24, .ifCond .le 12, 3), (27, .aload_n 0, 1), (28, .getfield 39, 3), (31, .bipush 32, 2), (33, .invokevirtual 288, 3), (36, .aload_n 0, 1), (37, .getfield 39, 3), (40, .aload_n 0, 1), (41, .getfield 12, 3), (44, .getfield 257, 3), (47, .iload_n 1, 1), (48, .invokevirtual 267, 3), (51, .invokevirtual 288, 3), (54, .aload_n 0, 1), (55, .getfield 39, 3), (58, .aload_n 0, 1), (59, .getfield 12, 3), (62, .getfield 257, 3), (65, .iload_n 1, 1), (66, .invokevirtual 273, 3), (69, .invokevirtual 285, 3), (72, .iinc 1 1, 3), (75, .goto (-66), 3), (78, .aload_n 0, 1), (79, .getfield 39, 3), (82, .getfield 291, 3), (85, .ireturn, 1)]
theorem dlk_X8_writeEvents : tvDl cX8_writeEvents dl_X8_writeEvents = true := by decide +kernel
theorem dk_X8_writeEvents_0 : tvD cX8_writeEvents 0 (.aload_n 0) 1 1 := tvDl_get dlk_X8_writeEvents 0 rfl rfl
theorem dk_X8_writeEvents_1 : tvD cX8_writeEvents 1 (.getfield 39) 3 4 := tvDl_get dlk_X8_writeEvents 1 rfl rfl
theorem dk_X8_writeEvents_4 : tvD cX8_writeEvents 4 (.invokevirtual 282) 3 7 := tvDl_get dlk_X8_writeEvents 2 rfl rfl
theorem dk_X8_writeEvents_7 : tvD cX8_writeEvents 7 (.iconst 0) 1 8 := tvDl_get dlk_X8_writeEvents 3 rfl rfl
theorem dk_X8_writeEvents_8 : tvD cX8_writeEvents 8 (.istore_n 1) 1 9 := tvDl_get dlk_X8_writeEvents 4 rfl rfl
theorem dk_X8_writeEvents_9 : tvD cX8_writeEvents 9 (.iload_n 1) 1 10 := tvDl_get dlk_X8_writeEvents 5 rfl rfl
theorem dk_X8_writeEvents_10 : tvD cX8_writeEvents 10 (.aload_n 0) 1 11 := tvDl_get dlk_X8_writeEvents 6 rfl rfl
theorem dk_X8_writeEvents_11 : tvD cX8_writeEvents 11 (.getfield 12) 3 14 := tvDl_get dlk_X8_writeEvents 7 rfl rfl
theorem dk_X8_writeEvents_14 : tvD cX8_writeEvents 14 (.getfield 257) 3 17 := tvDl_get dlk_X8_writeEvents 8 rfl rfl
theorem dk_X8_writeEvents_17 : tvD cX8_writeEvents 17 (.getfield 261) 3 20 := tvDl_get dlk_X8_writeEvents 9 rfl rfl
theorem dk_X8_writeEvents_20 : tvJ cX8_writeEvents 20 (.if_icmp .ge) 78 23 := tvJl_get dlk_X8_writeEvents 10 rfl (by decide) rfl
theorem dk_X8_writeEvents_23 : tvD cX8_writeEvents 23 (.iload_n 1) 1 24 := tvDl_get dlk_X8_writeEvents 11 rfl rfl
theorem dk_X8_writeEvents_24 : tvJ cX8_writeEvents 24 (.ifCond .le) 36 27 := tvJl_get dlk_X8_writeEvents 12 rfl (by decide) rfl
theorem dk_X8_writeEvents_27 : tvD cX8_writeEvents 27 (.aload_n 0) 1 28 := tvDl_get dlk_X8_writeEvents 13 rfl rfl
theorem dk_X8_writeEvents_28 : tvD cX8_writeEvents 28 (.getfield 39) 3 31 := tvDl_get dlk_X8_writeEvents 14 rfl rfl
theorem dk_X8_writeEvents_31 : tvD cX8_writeEvents 31 (.bipush 32) 2 33 := tvDl_get dlk_X8_writeEvents 15 rfl rfl
theorem dk_X8_writeEvents_33 : tvD cX8_writeEvents 33 (.invokevirtual 288) 3 36 := tvDl_get dlk_X8_writeEvents 16 rfl rfl
theorem dk_X8_writeEvents_36 : tvD cX8_writeEvents 36 (.aload_n 0) 1 37 := tvDl_get dlk_X8_writeEvents 17 rfl rfl
theorem dk_X8_writeEvents_37 : tvD cX8_writeEvents 37 (.getfield 39) 3 40 := tvDl_get dlk_X8_writeEvents 18 rfl rfl
theorem dk_X8_writeEvents_40 : tvD cX8_writeEvents 40 (.aload_n 0) 1 41 := tvDl_get dlk_X8_writeEvents 19 rfl rfl
theorem dk_X8_writeEvents_41 : tvD cX8_writeEvents 41 (.getfield 12) 3 44 := tvDl_get dlk_X8_writeEvents 20 rfl rfl
theorem dk_X8_writeEvents_44 : tvD cX8_writeEvents 44 (.getfield 257) 3 47 := tvDl_get dlk_X8_writeEvents 21 rfl rfl
theorem dk_X8_writeEvents_47 : tvD cX8_writeEvents 47 (.iload_n 1) 1 48 := tvDl_get dlk_X8_writeEvents 22 rfl rfl
theorem dk_X8_writeEvents_48 : tvD cX8_writeEvents 48 (.invokevirtual 267) 3 51 := tvDl_get dlk_X8_writeEvents 23 rfl rfl
theorem dk_X8_writeEvents_51 : tvD cX8_writeEvents 51 (.invokevirtual 288) 3 54 := tvDl_get dlk_X8_writeEvents 24 rfl rfl
theorem dk_X8_writeEvents_54 : tvD cX8_writeEvents 54 (.aload_n 0) 1 55 := tvDl_get dlk_X8_writeEvents 25 rfl rfl
theorem dk_X8_writeEvents_55 : tvD cX8_writeEvents 55 (.getfield 39) 3 58 := tvDl_get dlk_X8_writeEvents 26 rfl rfl
theorem dk_X8_writeEvents_58 : tvD cX8_writeEvents 58 (.aload_n 0) 1 59 := tvDl_get dlk_X8_writeEvents 27 rfl rfl
theorem dk_X8_writeEvents_59 : tvD cX8_writeEvents 59 (.getfield 12) 3 62 := tvDl_get dlk_X8_writeEvents 28 rfl rfl
theorem dk_X8_writeEvents_62 : tvD cX8_writeEvents 62 (.getfield 257) 3 65 := tvDl_get dlk_X8_writeEvents 29 rfl rfl
theorem dk_X8_writeEvents_65 : tvD cX8_writeEvents 65 (.iload_n 1) 1 66 := tvDl_get dlk_X8_writeEvents 30 rfl rfl
theorem dk_X8_writeEvents_66 : tvD cX8_writeEvents 66 (.invokevirtual 273) 3 69 := tvDl_get dlk_X8_writeEvents 31 rfl rfl
theorem dk_X8_writeEvents_69 : tvD cX8_writeEvents 69 (.invokevirtual 285) 3 72 := tvDl_get dlk_X8_writeEvents 32 rfl rfl
theorem dk_X8_writeEvents_72 : tvD cX8_writeEvents 72 (.iinc 1 1) 3 75 := tvDl_get dlk_X8_writeEvents 33 rfl rfl
theorem dk_X8_writeEvents_75 : tvJ cX8_writeEvents 75 .goto 9 78 := tvJl_get dlk_X8_writeEvents 34 rfl (by decide) rfl
theorem dk_X8_writeEvents_78 : tvD cX8_writeEvents 78 (.aload_n 0) 1 79 := tvDl_get dlk_X8_writeEvents 35 rfl rfl
theorem dk_X8_writeEvents_79 : tvD cX8_writeEvents 79 (.getfield 39) 3 82 := tvDl_get dlk_X8_writeEvents 36 rfl rfl
theorem dk_X8_writeEvents_82 : tvD cX8_writeEvents 82 (.getfield 291) 3 85 := tvDl_get dlk_X8_writeEvents 37 rfl rfl
theorem dk_X8_writeEvents_85 : tvD cX8_writeEvents 85 (.ireturn) 1 86 := tvDl_get dlk_X8_writeEvents 38 rfl rfl
