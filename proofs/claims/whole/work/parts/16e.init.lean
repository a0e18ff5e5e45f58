theorem fl_RX9_9 : tvFl RX9 9 9 0 := ⟨_, _, _, rfl, by decide, rfl, tvIn_9, rfl, Or.inl (tvgc (tvc_6 (List.mem_of_getElem? (i := 158) (by decide +kernel))) rfl)⟩
theorem ml_RX8_24 : Cond.methodLink RX8 24 yX1_init ∈ tvGW := tvgc (tvc_1 (List.mem_of_getElem? (i := 178) (by decide +kernel))) rfl
theorem yk_X1_init : tvYk yX1_init cX1_init 2 none 0 := ⟨tvgc (tvc_1 (List.mem_of_getElem? (i := 180) (by decide +kernel))) rfl, tvgc (tvc_1 (List.mem_of_getElem? (i := 7) (by decide +kernel))) rfl, by decide +kernel, by decide +kernel, plainFor_of_name (by decide +kernel)⟩
theorem yk_X8_init : tvYk yX8_init cX8_init 1 none 0 := ⟨tvgc (tvc_1 (List.mem_of_getElem? (i := 31) (by decide +kernel))) rfl, tvgc (tvc_1 (List.mem_of_getElem? (i := 1) (by decide +kernel))) rfl, by decide +kernel, by decide +kernel, plainFor_of_name (by decide +kernel)⟩
theorem yk_X9_init : tvYk yX9_init cX9_init 1 none 0 := ⟨tvgc (tvc_6 (List.mem_of_getElem? (i := 156) (by decide +kernel))) rfl, tvgc (tvc_1 (List.mem_of_getElem? (i := 10) (by decide +kernel))) rfl, by decide +kernel, by decide +kernel, plainFor_of_name (by decide +kernel)⟩
def dl_X1_init : List (Nat × Instr × Nat) := [(0, .aload_n 0, 1), (1, .invokespecial 3, 3), (4, .aload_n 0, 1), (5, .bipush 9, 2), (7, .anewarray 11, 3), (10, .putfield 13, 3), (13, .iconst 0, 1), (14, .istore_n 1, 1), (15, .iload_n 1, 1), (16, .bipush 9, 2), (18, .if_icmp .ge 22, 3), (21, .aload_n 0, 1), (22, .getfield 13, 3), (25, .iload_n 1, 1), (26, .new 11, 3), (29, .dup, 1), (30, .invokespecial 17, 3), (33, .aastore, 1), (34, .iinc 1 1, 3), (37, .goto (-22), 3), (40, .return_, 1)]
theorem dlk_X1_init : tvDl cX1_init dl_X1_init = true := by decide +kernel
theorem dk_X1_init_0 : tvD cX1_init 0 (.aload_n 0) 1 1 := tvDl_get dlk_X1_init 0 rfl rfl
theorem dk_X1_init_1 : tvD cX1_init 1 (.invokespecial 3) 3 4 := tvDl_get dlk_X1_init 1 rfl rfl
theorem dk_X1_init_4 : tvD cX1_init 4 (.aload_n 0) 1 5 := tvDl_get dlk_X1_init 2 rfl rfl
theorem dk_X1_init_5 : tvD cX1_init 5 (.bipush 9) 2 7 := tvDl_get dlk_X1_init 3 rfl rfl
theorem dk_X1_init_7 : tvD cX1_init 7 (.anewarray 11) 3 10 := tvDl_get dlk_X1_init 4 rfl rfl
theorem dk_X1_init_10 : tvD cX1_init 10 (.putfield 13) 3 13 := tvDl_get dlk_X1_init 5 rfl rfl
theorem dk_X1_init_13 : tvD cX1_init 13 (.iconst 0) 1 14 := tvDl_get dlk_X1_init 6 rfl rfl
theorem dk_X1_init_14 : tvD cX1_init 14 (.istore_n 1) 1 15 := tvDl_get dlk_X1_init 7 rfl rfl
theorem dk_X1_init_15 : tvD cX1_init 15 (.iload_n 1) 1 16 := tvDl_get dlk_X1_init 8 rfl rfl
theorem dk_X1_init_16 : tvD cX1_init 16 (.bipush 9) 2 18 := tvDl_get dlk_X1_init 9 rfl rfl
theorem dk_X1_init_18 : tvJ cX1_init 18 (.if_icmp .ge) 40 21 := tvJl_get dlk_X1_init 10 rfl (by decide) rfl
theorem dk_X1_init_21 : tvD cX1_init 21 (.aload_n 0) 1 22 := tvDl_get dlk_X1_init 11 rfl rfl
theorem dk_X1_init_22 : tvD cX1_init 22 (.getfield 13) 3 25 := tvDl_get dlk_X1_init 12 rfl rfl
theorem dk_X1_init_25 : tvD cX1_init 25 (.iload_n 1) 1 26 := tvDl_get dlk_X1_init 13 rfl rfl
theorem dk_X1_init_26 : tvD cX1_init 26 (.new 11) 3 29 := tvDl_get dlk_X1_init 14 rfl rfl
theorem dk_X1_init_29 : tvD cX1_init 29 (.dup) 1 30 := tvDl_get dlk_X1_init 15 rfl rfl
theorem dk_X1_init_30 : tvD cX1_init 30 (.invokespecial 17) 3 33 := tvDl_get dlk_X1_init 16 rfl rfl
theorem dk_X1_init_33 : tvD cX1_init 33 (.aastore) 1 34 := tvDl_get dlk_X1_init 17 rfl rfl
theorem dk_X1_init_34 : tvD cX1_init 34 (.iinc 1 1) 3 37 := tvDl_get dlk_X1_init 18 rfl rfl
theorem dk_X1_init_37 : tvJ cX1_init 37 .goto 15 40 := tvJl_get dlk_X1_init 19 rfl (by decide) rfl
theorem dk_X1_init_40 : tvD cX1_init 40 (.return_) 1 41 := tvDl_get dlk_X1_init 20 rfl rfl
def dl_X8_init : List (Nat × Instr × Nat) := [(0, .aload_n 0, 1), (1, .invokespecial 3, 3), (4, .aload_n 0, 1), (5, .new 9, 3), (8, .dup, 1), (9, .invokespecial 11, 3), (12, .putfield 12, 3), (15, .aload_n 0, 1), (16, .new 9, 3), (19, .dup, 1), (20, .invokespecial 11, 3), (23, .putfield 16, 3), (26, .aload_n 0, 1), (27, .new 9, 3), (30, .dup, 1), (31, .invokespecial 11, 3), (34, .putfield 19, 3), (37, .aload_n 0, 1), (38, .new 22, 3), (41, .dup, 1), (42, .invokespecial 24, 3), (45, .putfield 25, 3), (48, .aload_n 0, 1), (49, .new 29, 3), (52, .dup, 1), (53, .invokespecial 31, 3), (56, .putfield 32, 3), (59, .aload_n 0, 1), (60, .new 36, 3), (63, .dup, 1), (64, .invokespecial 38, 3), (67, .putfield 39, 3), (70, .aload_n 0, 1), (71, .iconst (-1), 1), (72, .putfield 43, 3), (75, .aload_n 0, 1), (76, .iconst (-1), 1), (77, .putfield 47, 3), (80, .return_, 1)]
theorem dlk_X8_init : tvDl cX8_init dl_X8_init = true := by decide +kernel
theorem dk_X8_init_0 : tvD cX8_init 0 (.aload_n 0) 1 1 := tvDl_get dlk_X8_init 0 rfl rfl
theorem dk_X8_init_1 : tvD cX8_init 1 (.invokespecial 3) 3 4 := tvDl_get dlk_X8_init 1 rfl rfl
theorem dk_X8_init_4 : tvD cX8_init 4 (.aload_n 0) 1 5 := tvDl_get dlk_X8_init 2 rfl rfl
theorem dk_X8_init_5 : tvD cX8_init 5 (.new 9) 3 8 := tvDl_get dlk_X8_init 3 rfl rfl
theorem dk_X8_init_8 : tvD cX8_init 8 (.dup) 1 9 := tvDl_get dlk_X8_init 4 rfl rfl
theorem dk_X8_init_9 : tvD cX8_init 9 (.invokespecial 11) 3 12 := tvDl_get dlk_X8_init 5 rfl rfl
theorem dk_X8_init_12 : tvD cX8_init 12 (.putfield 12) 3 15 := tvDl_get dlk_X8_init 6 rfl rfl
theorem dk_X8_init_15 : tvD cX8_init 15 (.aload_n 0) 1 16 := tvDl_get dlk_X8_init 7 rfl rfl
theorem dk_X8_init_16 : tvD cX8_init 16 (.new 9) 3 19 := tvDl_get dlk_X8_init 8 rfl rfl
theorem dk_X8_init_19 : tvD cX8_init 19 (.dup) 1 20 := tvDl_get dlk_X8_init 9 rfl rfl
theorem dk_X8_init_20 : tvD cX8_init 20 (.invokespecial 11) 3 23 := tvDl_get dlk_X8_init 10 rfl rfl
theorem dk_X8_init_23 : tvD cX8_init 23 (.putfield 16) 3 26 := tvDl_get dlk_X8_init 11 rfl rfl
theorem dk_X8_init_26 : tvD cX8_init 26 (.aload_n 0) 1 27 := tvDl_get dlk_X8_init 12 rfl rfl
theorem dk_X8_init_27 : tvD cX8_init 27 (.new 9) 3 30 := tvDl_get dlk_X8_init 13 rfl rfl
theorem dk_X8_init_30 : tvD cX8_init 30 (.dup) 1 31 := tvDl_get dlk_X8_init 14 rfl rfl
theorem dk_X8_init_31 : tvD cX8_init 31 (.invokespecial 11) 3 34 := tvDl_get dlk_X8_init 15 rfl rfl
theorem dk_X8_init_34 : tvD cX8_init 34 (.putfield 19) 3 37 := tvDl_get dlk_X8_init 16 rfl rfl
theorem dk_X8_init_37 : tvD cX8_init 37 (.aload_n 0) 1 38 := tvDl_get dlk_X8_init 17 rfl rfl
theorem dk_X8_init_38 : tvD cX8_init 38 (.new 22) 3 41 := tvDl_get dlk_X8_init 18 rfl rfl
theorem dk_X8_init_41 : tvD cX8_init 41 (.dup) 1 42 := tvDl_get dlk_X8_init 19 rfl rfl
theorem dk_X8_init_42 : tvD cX8_init 42 (.invokespecial 24) 3 45 := tvDl_get dlk_X8_init 20 rfl rfl
theorem dk_X8_init_45 : tvD cX8_init 45 (.putfield 25) 3 48 := tvDl_get dlk_X8_init 21 rfl rfl
theorem dk_X8_init_48 : tvD cX8_init 48 (.aload_n 0) 1 49 := tvDl_get dlk_X8_init 22 rfl rfl
theorem dk_X8_init_49 : tvD cX8_init 49 (.new 29) 3 52 := tvDl_get dlk_X8_init 23 rfl rfl
theorem dk_X8_init_52 : tvD cX8_init 52 (.dup) 1 53 := tvDl_get dlk_X8_init 24 rfl rfl
theorem dk_X8_init_53 : tvD cX8_init 53 (.invokespecial 31) 3 56 := tvDl_get dlk_X8_init 25 rfl rfl
theorem dk_X8_init_56 : tvD cX8_init 56 (.putfield 32) 3 59 := tvDl_get dlk_X8_init 26 rfl rfl
theorem dk_X8_init_59 : tvD cX8_init 59 (.aload_n 0) 1 60 := tvDl_get dlk_X8_init 27 rfl rfl
theorem dk_X8_init_60 : tvD cX8_init 60 (.new 36) 3 63 := tvDl_get dlk_X8_init 28 rfl rfl
theorem dk_X8_init_63 : tvD cX8_init 63 (.dup) 1 64 := tvDl_get dlk_X8_init 29 rfl rfl
theorem dk_X8_init_64 : tvD cX8_init 64 (.invokespecial 38) 3 67 := tvDl_get dlk_X8_init 30 rfl rfl
theorem dk_X8_init_67 : tvD cX8_init 67 (.putfield 39) 3 70 := tvDl_get dlk_X8_init 31 rfl rfl
theorem dk_X8_init_70 : tvD cX8_init 70 (.aload_n 0) 1 71 := tvDl_get dlk_X8_init 32 rfl rfl
theorem dk_X8_init_71 : tvD cX8_init 71 (.iconst (-1)) 1 72 := tvDl_get dlk_X8_init 33 rfl rfl
theorem dk_X8_init_72 : tvD cX8_init 72 (.putfield 43) 3 75 := tvDl_get dlk_X8_init 34 rfl rfl
theorem dk_X8_init_75 : tvD cX8_init 75 (.aload_n 0) 1 76 := tvDl_get dlk_X8_init 35 rfl rfl
theorem dk_X8_init_76 : tvD cX8_init 76 (.iconst (-1)) 1 77 := tvDl_get dlk_X8_init 36 rfl rfl
theorem dk_X8_init_77 : tvD cX8_init 77 (.putfield 47) 3 80 := tvDl_get dlk_X8_init 37 rfl rfl
theorem dk_X8_init_80 : tvD cX8_init 80 (.return_) 1 81 := tvDl_get dlk_X8_init 38 rfl rfl
def dl_X9_init : List (Nat × Instr × Nat) := [(0, .aload_n 0, 1), (1, .invokespecial 3, 3), (4, .aload_n 0, 1), (5, .sipush 202, 3), (8, .newarray .int, 2), (10, .putfield 9, 3), (13, .aload_n 0, 1), (14, .sipush 202, 3), (17, .newarray .int, 2), (19, .putfield 13, 3), (22, .aload_n 0, 1), (23, .sipush 202, 3), (26, .newarray .int, 2), (28, .putfield 16, 3), (31, .aload_n 0, 1), (32, .sipush 1616, 3), (35, .newarray .int, 2), (37, .putfield 19, 3), (40, .aload_n 0, 1), (41, .iconst (-1), 1), (42, .putfield 22, 3), (45, .aload_n 0, 1), (46, .iconst (-1), 1), (47, .putfield 26, 3), (50, .aload_n 0, 1), (51, .bipush 60, 2), (53, .newarray .int, 2), (55, .putfield 29, 3), (58, .aload_n 0, 1), (59, .bipush 60, 2), (61, .newarray .int, 2), (63, .putfield 32, 3), (66, .aload_n 0, 1), (67, .bipush 124, 2), (69, .newarray .int, 2), (71, .putfield 35, 3), (74, .aload_n 0, 1), (75, .getfield 9, 3), (78, .iconst 1, 1), (79, .sipush 240, 3), (82, .iastore, 1), (83, .aload_n 0, 1), (84, .getfield 9, 3), (87, .iconst 2, 1), (88, .bipush 60, 2), (90, .iastore, 1), (91, .return_, 1)]
theorem dlk_X9_init : tvDl cX9_init dl_X9_init = true := by decide +kernel
theorem dk_X9_init_0 : tvD cX9_init 0 (.aload_n 0) 1 1 := tvDl_get dlk_X9_init 0 rfl rfl
theorem dk_X9_init_1 : tvD cX9_init 1 (.invokespecial 3) 3 4 := tvDl_get dlk_X9_init 1 rfl rfl
theorem dk_X9_init_4 : tvD cX9_init 4 (.aload_n 0) 1 5 := tvDl_get dlk_X9_init 2 rfl rfl
theorem dk_X9_init_5 : tvD cX9_init 5 (.sipush 202) 3 8 := tvDl_get dlk_X9_init 3 rfl rfl
theorem dk_X9_init_8 : tvD cX9_init 8 (.newarray .int) 2 10 := tvDl_get dlk_X9_init 4 rfl rfl
theorem dk_X9_init_10 : tvD cX9_init 10 (.putfield 9) 3 13 := tvDl_get dlk_X9_init 5 rfl rfl
theorem dk_X9_init_13 : tvD cX9_init 13 (.aload_n 0) 1 14 := tvDl_get dlk_X9_init 6 rfl rfl
theorem dk_X9_init_14 : tvD cX9_init 14 (.sipush 202) 3 17 := tvDl_get dlk_X9_init 7 rfl rfl
theorem dk_X9_init_17 : tvD cX9_init 17 (.newarray .int) 2 19 := tvDl_get dlk_X9_init 8 rfl rfl
theorem dk_X9_init_19 : tvD cX9_init 19 (.putfield 13) 3 22 := tvDl_get dlk_X9_init 9 rfl rfl
theorem dk_X9_init_22 : tvD cX9_init 22 (.aload_n 0) 1 23 := tvDl_get dlk_X9_init 10 rfl rfl
theorem dk_X9_init_23 : tvD cX9_init 23 (.sipush 202) 3 26 := tvDl_get dlk_X9_init 11 rfl rfl
theorem dk_X9_init_26 : tvD cX9_init 26 (.newarray .int) 2 28 := tvDl_get dlk_X9_init 12 rfl rfl
theorem dk_X9_init_28 : tvD cX9_init 28 (.putfield 16) 3 31 := tvDl_get dlk_X9_init 13 rfl rfl
theorem dk_X9_init_31 : tvD cX9_init 31 (.aload_n 0) 1 32 := tvDl_get dlk_X9_init 14 rfl rfl
theorem dk_X9_init_32 : tvD cX9_init 32 (.sipush 1616) 3 35 := tvDl_get dlk_X9_init 15 rfl rfl
theorem dk_X9_init_35 : tvD cX9_init 35 (.newarray .int) 2 37 := tvDl_get dlk_X9_init 16 rfl rfl
theorem dk_X9_init_37 : tvD cX9_init 37 (.putfield 19) 3 40 := tvDl_get dlk_X9_init 17 rfl rfl
theorem dk_X9_init_40 : tvD cX9_init 40 (.aload_n 0) 1 41 := tvDl_get dlk_X9_init 18 rfl rfl
theorem dk_X9_init_41 : tvD cX9_init 41 (.iconst (-1)) 1 42 := tvDl_get dlk_X9_init 19 rfl rfl
theorem dk_X9_init_42 : tvD cX9_init 42 (.putfield 22) 3 45 := tvDl_get dlk_X9_init 20 rfl rfl
theorem dk_X9_init_45 : tvD cX9_init 45 (.aload_n 0) 1 46 := tvDl_get dlk_X9_init 21 rfl rfl
theorem dk_X9_init_46 : tvD cX9_init 46 (.iconst (-1)) 1 47 := tvDl_get dlk_X9_init 22 rfl rfl
theorem dk_X9_init_47 : tvD cX9_init 47 (.putfield 26) 3 50 := tvDl_get dlk_X9_init 23 rfl rfl
theorem dk_X9_init_50 : tvD cX9_init 50 (.aload_n 0) 1 51 := tvDl_get dlk_X9_init 24 rfl rfl
theorem dk_X9_init_51 : tvD cX9_init 51 (.bipush 60) 2 53 := tvDl_get dlk_X9_init 25 rfl rfl
theorem dk_X9_init_53 : tvD cX9_init 53 (.newarray .int) 2 55 := tvDl_get dlk_X9_init 26 rfl rfl
theorem dk_X9_init_55 : tvD cX9_init 55 (.putfield 29) 3 58 := tvDl_get dlk_X9_init 27 rfl rfl
theorem dk_X9_init_58 : tvD cX9_init 58 (.aload_n 0) 1 59 := tvDl_get dlk_X9_init 28 rfl rfl
theorem dk_X9_init_59 : tvD cX9_init 59 (.bipush 60) 2 61 := tvDl_get dlk_X9_init 29 rfl rfl
theorem dk_X9_init_61 : tvD cX9_init 61 (.newarray .int) 2 63 := tvDl_get dlk_X9_init 30 rfl rfl
theorem dk_X9_init_63 : tvD cX9_init 63 (.putfield 32) 3 66 := tvDl_get dlk_X9_init 31 rfl rfl
theorem dk_X9_init_66 : tvD cX9_init 66 (.aload_n 0) 1 67 := tvDl_get dlk_X9_init 32 rfl rfl
theorem dk_X9_init_67 : tvD cX9_init 67 (.bipush 124) 2 69 := tvDl_get dlk_X9_init 33 rfl rfl
theorem dk_X9_init_69 : tvD cX9_init 69 (.newarray .int) 2 71 := tvDl_get dlk_X9_init 34 rfl rfl
theorem dk_X9_init_71 : tvD cX9_init 71 (.putfield 35) 3 74 := tvDl_get dlk_X9_init 35 rfl rfl
theorem dk_X9_init_74 : tvD cX9_init 74 (.aload_n 0) 1 75 := tvDl_get dlk_X9_init 36 rfl rfl
theorem dk_X9_init_75 : tvD cX9_init 75 (.getfield 9) 3 78 := tvDl_get dlk_X9_init 37 rfl rfl
theorem dk_X9_init_78 : tvD cX9_init 78 (.iconst 1) 1 79 := tvDl_get dlk_X9_init 38 rfl rfl
theorem dk_X9_init_79 : tvD cX9_init 79 (.sipush 240) 3 82 := tvDl_get dlk_X9_init 39 rfl rfl
theorem dk_X9_init_82 : tvD cX9_init 82 (.iastore) 1 83 := tvDl_get dlk_X9_init 40 rfl rfl
theorem dk_X9_init_83 : tvD cX9_init 83 (.aload_n 0) 1 84 := tvDl_get dlk_X9_init 41 rfl rfl
theorem dk_X9_init_84 : tvD cX9_init 84 (.getfield 9) 3 87 := tvDl_get dlk_X9_init 42 rfl rfl
theorem dk_X9_init_87 : tvD cX9_init 87 (.iconst 2) 1 88 := tvDl_get dlk_X9_init 43 rfl rfl
theorem dk_X9_init_88 : tvD cX9_init 88 (.bipush 60) 2 90 := tvDl_get dlk_X9_init 44 rfl rfl
theorem dk_X9_init_90 : tvD cX9_init 90 (.iastore) 1 91 := tvDl_get dlk_X9_init 45 rfl rfl
theorem dk_X9_init_91 : tvD cX9_init 91 (.return_) 1 92 := tvDl_get dlk_X9_init 46 rfl rfl
theorem fo_RX8_12 : tvFo RX8 12 8 0 true := ⟨_, _, _, rfl, by decide, rfl, tvIn_8, rfl, rfl, tvgc (tvc_1 (List.mem_of_getElem? (i := 236) (by decide +kernel))) rfl, tyX8_ok, nmX8, rfl⟩
theorem fo_RX8_16 : tvFo RX8 16 8 1 true := ⟨_, _, _, rfl, by decide, rfl, tvIn_8, rfl, rfl, tvgc (tvc_1 (List.mem_of_getElem? (i := 237) (by decide +kernel))) rfl, tyX8_ok, nmX8, rfl⟩
theorem fo_RX8_19 : tvFo RX8 19 8 2 true := ⟨_, _, _, rfl, by decide, rfl, tvIn_8, rfl, rfl, tvgc (tvc_1 (List.mem_of_getElem? (i := 238) (by decide +kernel))) rfl, tyX8_ok, nmX8, rfl⟩
theorem fo_RX8_25 : tvFo RX8 25 8 3 true := ⟨_, _, _, rfl, by decide, rfl, tvIn_8, rfl, rfl, tvgc (tvc_1 (List.mem_of_getElem? (i := 239) (by decide +kernel))) rfl, tyX8_ok, nmX8, rfl⟩
theorem fo_RX8_32 : tvFo RX8 32 8 4 true := ⟨_, _, _, rfl, by decide, rfl, tvIn_8, rfl, rfl, tvgc (tvc_2 (List.mem_of_getElem? (i := 0) (by decide +kernel))) rfl, tyX8_ok, nmX8, rfl⟩
theorem fo_RX8_39 : tvFo RX8 39 8 5 true := ⟨_, _, _, rfl, by decide, rfl, tvIn_8, rfl, rfl, tvgc (tvc_2 (List.mem_of_getElem? (i := 1) (by decide +kernel))) rfl, tyX8_ok, nmX8, rfl⟩
theorem fo_RX8_43 : tvFo RX8 43 8 7 false := ⟨_, _, _, rfl, by decide, rfl, tvIn_8, rfl, rfl, tvgc (tvc_2 (List.mem_of_getElem? (i := 3) (by decide +kernel))) rfl, tyX8_ok, nmX8, rfl⟩
theorem fo_RX8_47 : tvFo RX8 47 8 8 false := ⟨_, _, _, rfl, by decide, rfl, tvIn_8, rfl, rfl, tvgc (tvc_2 (List.mem_of_getElem? (i := 4) (by decide +kernel))) rfl, tyX8_ok, nmX8, rfl⟩
theorem fo_RX1_13 : tvFo RX1 13 1 0 true := ⟨_, _, _, rfl, by decide, rfl, tvIn_1, rfl, rfl, tvgc (tvc_1 (List.mem_of_getElem? (i := 185) (by decide +kernel))) rfl, tyX1_ok, nmX1, rfl⟩
theorem fo_RX9_9 : tvFo RX9 9 9 0 true := ⟨_, _, _, rfl, by decide, rfl, tvIn_9, rfl, rfl, tvgc (tvc_6 (List.mem_of_getElem? (i := 158) (by decide +kernel))) rfl, tyX9_ok, nmX9, rfl⟩
theorem fo_RX9_13 : tvFo RX9 13 9 1 true := ⟨_, _, _, rfl, by decide, rfl, tvIn_9, rfl, rfl, tvgc (tvc_6 (List.mem_of_getElem? (i := 159) (by decide +kernel))) rfl, tyX9_ok, nmX9, rfl⟩
theorem fo_RX9_16 : tvFo RX9 16 9 2 true := ⟨_, _, _, rfl, by decide, rfl, tvIn_9, rfl, rfl, tvgc (tvc_6 (List.mem_of_getElem? (i := 160) (by decide +kernel))) rfl, tyX9_ok, nmX9, rfl⟩
theorem fo_RX9_19 : tvFo RX9 19 9 3 true := ⟨_, _, _, rfl, by decide, rfl, tvIn_9, rfl, rfl, tvgc (tvc_6 (List.mem_of_getElem? (i := 161) (by decide +kernel))) rfl, tyX9_ok, nmX9, rfl⟩
theorem fo_RX9_22 : tvFo RX9 22 9 6 false := ⟨_, _, _, rfl, by decide, rfl, tvIn_9, rfl, rfl, tvgc (tvc_6 (List.mem_of_getElem? (i := 164) (by decide +kernel))) rfl, tyX9_ok, nmX9, rfl⟩
theorem fo_RX9_26 : tvFo RX9 26 9 7 false := ⟨_, _, _, rfl, by decide, rfl, tvIn_9, rfl, rfl, tvgc (tvc_6 (List.mem_of_getElem? (i := 165) (by decide +kernel))) rfl, tyX9_ok, nmX9, rfl⟩
theorem fo_RX9_29 : tvFo RX9 29 9 11 true := ⟨_, _, _, rfl, by decide, rfl, tvIn_9, rfl, rfl, tvgc (tvc_6 (List.mem_of_getElem? (i := 169) (by decide +kernel))) rfl, tyX9_ok, nmX9, rfl⟩
theorem fo_RX9_32 : tvFo RX9 32 9 13 true := ⟨_, _, _, rfl, by decide, rfl, tvIn_9, rfl, rfl, tvgc (tvc_6 (List.mem_of_getElem? (i := 171) (by decide +kernel))) rfl, tyX9_ok, nmX9, rfl⟩
theorem fo_RX9_35 : tvFo RX9 35 9 14 true := ⟨_, _, _, rfl, by decide, rfl, tvIn_9, rfl, rfl, tvgc (tvc_6 (List.mem_of_getElem? (i := 172) (by decide +kernel))) rfl, tyX9_ok, nmX9, rfl⟩
theorem nw_RX8_9 : tvNw RX8 9 6 := ⟨_, _, _, rfl, rfl, tvIn_6, tyX6_ok, tvgc (tvc_1 (List.mem_of_getElem? (i := 35) (by decide +kernel))) rfl, tvgc (tvc_1 (List.mem_of_getElem? (i := 36) (by decide +kernel))) rfl, tvgc (tvc_1 (List.mem_of_getElem? (i := 2) (by decide +kernel))) rfl, by decide⟩
theorem nw_RX8_22 : tvNw RX8 22 1 := ⟨_, _, _, rfl, rfl, tvIn_1, tyX1_ok, tvgc (tvc_1 (List.mem_of_getElem? (i := 176) (by decide +kernel))) rfl, tvgc (tvc_1 (List.mem_of_getElem? (i := 177) (by decide +kernel))) rfl, tvgc (tvc_1 (List.mem_of_getElem? (i := 7) (by decide +kernel))) rfl, by decide⟩
theorem nw_RX8_29 : tvNw RX8 29 5 := ⟨_, _, _, rfl, rfl, tvIn_5, tyX5_ok, tvgc (tvc_1 (List.mem_of_getElem? (i := 196) (by decide +kernel))) rfl, tvgc (tvc_1 (List.mem_of_getElem? (i := 197) (by decide +kernel))) rfl, tvgc (tvc_1 (List.mem_of_getElem? (i := 8) (by decide +kernel))) rfl, by decide⟩
theorem nw_RX8_36 : tvNw RX8 36 3 := ⟨_, _, _, rfl, rfl, tvIn_3, tyX3_ok, tvgc (tvc_1 (List.mem_of_getElem? (i := 222) (by decide +kernel))) rfl, tvgc (tvc_1 (List.mem_of_getElem? (i := 223) (by decide +kernel))) rfl, tvgc (tvc_1 (List.mem_of_getElem? (i := 9) (by decide +kernel))) rfl, by decide⟩
theorem nw_RX1_11 : tvNw RX1 11 6 := ⟨_, _, _, rfl, rfl, tvIn_6, tyX6_ok, tvgc (tvc_1 (List.mem_of_getElem? (i := 182) (by decide +kernel))) rfl, tvgc (tvc_1 (List.mem_of_getElem? (i := 36) (by decide +kernel))) rfl, tvgc (tvc_1 (List.mem_of_getElem? (i := 2) (by decide +kernel))) rfl, by decide⟩
theorem ym_X1_init : Cond.instanceMethod yX1_init ∈ tvGW := tvgc (tvc_1 (List.mem_of_getElem? (i := 179) (by decide +kernel))) rfl
theorem ym_X3_init : Cond.instanceMethod yX3_init ∈ tvGW := tvgc (tvc_1 (List.mem_of_getElem? (i := 225) (by decide +kernel))) rfl
theorem ym_X5_init : Cond.instanceMethod yX5_init ∈ tvGW := tvgc (tvc_1 (List.mem_of_getElem? (i := 199) (by decide +kernel))) rfl
theorem ym_X6_init : Cond.instanceMethod yX6_init ∈ tvGW := tvgc (tvc_1 (List.mem_of_getElem? (i := 38) (by decide +kernel))) rfl
theorem mn_RX8_11 : Cond.methodLinkNest RX8 11 yX6_init "TideVault" ∈ tvNest := tvn 113 (by decide +kernel) rfl
theorem mn_RX8_31 : Cond.methodLinkNest RX8 31 yX5_init "TideVault" ∈ tvNest := tvn 274 (by decide +kernel) rfl
theorem mn_RX8_38 : Cond.methodLinkNest RX8 38 yX3_init "TideVault" ∈ tvNest := tvn 300 (by decide +kernel) rfl
theorem mn_RX1_17 : Cond.methodLinkNest RX1 17 yX6_init "TideVault" ∈ tvNest := tvn 260 (by decide +kernel) rfl
