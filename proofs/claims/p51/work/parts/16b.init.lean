theorem yk_X0_init : tvYk yX0_init cX0_init 1 none 0 := ⟨tvgc (tvc_3 (List.mem_of_getElem? (i := 70) (by decide +kernel))) rfl, tvgc (tvc_1 (List.mem_of_getElem? (i := 5) (by decide +kernel))) rfl, by decide +kernel, by decide +kernel, plainFor_of_name (by decide +kernel)⟩
theorem yk_X2_init : tvYk yX2_init cX2_init 1 none 0 := ⟨tvgc (tvc_3 (List.mem_of_getElem? (i := 49) (by decide +kernel))) rfl, tvgc (tvc_1 (List.mem_of_getElem? (i := 4) (by decide +kernel))) rfl, by decide +kernel, by decide +kernel, plainFor_of_name (by decide +kernel)⟩
theorem yk_X3_init : tvYk yX3_init cX3_init 1 none 0 := ⟨tvgc (tvc_3 (List.mem_of_getElem? (i := 213) (by decide +kernel))) rfl, tvgc (tvc_1 (List.mem_of_getElem? (i := 9) (by decide +kernel))) rfl, by decide +kernel, by decide +kernel, plainFor_of_name (by decide +kernel)⟩
theorem yk_X4_init : tvYk yX4_init cX4_init 1 none 0 := ⟨tvgc (tvc_3 (List.mem_of_getElem? (i := 109) (by decide +kernel))) rfl, tvgc (tvc_1 (List.mem_of_getElem? (i := 6) (by decide +kernel))) rfl, by decide +kernel, by decide +kernel, plainFor_of_name (by decide +kernel)⟩
theorem yk_X5_init : tvYk yX5_init cX5_init 1 none 0 := ⟨tvgc (tvc_3 (List.mem_of_getElem? (i := 187) (by decide +kernel))) rfl, tvgc (tvc_1 (List.mem_of_getElem? (i := 8) (by decide +kernel))) rfl, by decide +kernel, by decide +kernel, plainFor_of_name (by decide +kernel)⟩
theorem yk_X6_init : tvYk yX6_init cX6_init 1 none 0 := ⟨tvgc (tvc_3 (List.mem_of_getElem? (i := 31) (by decide +kernel))) rfl, tvgc (tvc_1 (List.mem_of_getElem? (i := 2) (by decide +kernel))) rfl, by decide +kernel, by decide +kernel, plainFor_of_name (by decide +kernel)⟩
theorem yk_X7_init : tvYk yX7_init cX7_init 1 none 0 := ⟨tvgc (tvc_3 (List.mem_of_getElem? (i := 36) (by decide +kernel))) rfl, tvgc (tvc_1 (List.mem_of_getElem? (i := 3) (by decide +kernel))) rfl, by decide +kernel, by decide +kernel, plainFor_of_name (by decide +kernel)⟩
def dl_X0_init : List (Nat × Instr × Nat) := [(0, .aload_n 0, 1), (1, .invokespecial 3, 3), (4, .aload_n 0, 1), (5, .bipush 10, 2), (7, .newarray .int, 2), (9, .putfield 9, 3), (12, .aload_n 0, 1), (13, .bipush 10, 2), (15, .newarray .int, 2), (17, .putfield 15, 3), (20, .aload_n 0, 1), (21, .bipush 10, 2), (23, .newarray .int, 2), (25, .putfield 18, 3), (28, .aload_n 0, 1), (29, .bipush 10, 2), (31, .newarray .char, 2), (33, .putfield 21, 3), (36, .aload_n 0, 1), (37, .bipush 10, 2), (39, .newarray .int, 2), (41, .putfield 25, 3), (44, .aload_n 0, 1), (45, .bipush 10, 2), (47, .newarray .int, 2), (49, .putfield 28, 3), (52, .aload_n 0, 1), (53, .bipush 10, 2), (55, .newarray .int, 2), (57, .putfield 31, 3), (60, .aload_n 0, 1), (61, .bipush 10, 2), (63, .newarray .int, 2), (65, .putfield 34, 3), (68, .aload_n 0, 1), (69, .bipush 50, 2), (71, .newarray .int, 2), (73, .putfield 37, 3), (76, .return_, 1)]
theorem dlk_X0_init : tvDl cX0_init dl_X0_init = true := by decide +kernel
theorem dk_X0_init_0 : tvD cX0_init 0 (.aload_n 0) 1 1 := tvDl_get dlk_X0_init 0 rfl rfl
theorem dk_X0_init_1 : tvD cX0_init 1 (.invokespecial 3) 3 4 := tvDl_get dlk_X0_init 1 rfl rfl
theorem dk_X0_init_4 : tvD cX0_init 4 (.aload_n 0) 1 5 := tvDl_get dlk_X0_init 2 rfl rfl
theorem dk_X0_init_5 : tvD cX0_init 5 (.bipush 10) 2 7 := tvDl_get dlk_X0_init 3 rfl rfl
theorem dk_X0_init_7 : tvD cX0_init 7 (.newarray .int) 2 9 := tvDl_get dlk_X0_init 4 rfl rfl
theorem dk_X0_init_9 : tvD cX0_init 9 (.putfield 9) 3 12 := tvDl_get dlk_X0_init 5 rfl rfl
theorem dk_X0_init_12 : tvD cX0_init 12 (.aload_n 0) 1 13 := tvDl_get dlk_X0_init 6 rfl rfl
theorem dk_X0_init_13 : tvD cX0_init 13 (.bipush 10) 2 15 := tvDl_get dlk_X0_init 7 rfl rfl
theorem dk_X0_init_15 : tvD cX0_init 15 (.newarray .int) 2 17 := tvDl_get dlk_X0_init 8 rfl rfl
theorem dk_X0_init_17 : tvD cX0_init 17 (.putfield 15) 3 20 := tvDl_get dlk_X0_init 9 rfl rfl
theorem dk_X0_init_20 : tvD cX0_init 20 (.aload_n 0) 1 21 := tvDl_get dlk_X0_init 10 rfl rfl
theorem dk_X0_init_21 : tvD cX0_init 21 (.bipush 10) 2 23 := tvDl_get dlk_X0_init 11 rfl rfl
theorem dk_X0_init_23 : tvD cX0_init 23 (.newarray .int) 2 25 := tvDl_get dlk_X0_init 12 rfl rfl
theorem dk_X0_init_25 : tvD cX0_init 25 (.putfield 18) 3 28 := tvDl_get dlk_X0_init 13 rfl rfl
theorem dk_X0_init_28 : tvD cX0_init 28 (.aload_n 0) 1 29 := tvDl_get dlk_X0_init 14 rfl rfl
theorem dk_X0_init_29 : tvD cX0_init 29 (.bipush 10) 2 31 := tvDl_get dlk_X0_init 15 rfl rfl
theorem dk_X0_init_31 : tvD cX0_init 31 (.newarray .char) 2 33 := tvDl_get dlk_X0_init 16 rfl rfl
theorem dk_X0_init_33 : tvD cX0_init 33 (.putfield 21) 3 36 := tvDl_get dlk_X0_init 17 rfl rfl
theorem dk_X0_init_36 : tvD cX0_init 36 (.aload_n 0) 1 37 := tvDl_get dlk_X0_init 18 rfl rfl
theorem dk_X0_init_37 : tvD cX0_init 37 (.bipush 10) 2 39 := tvDl_get dlk_X0_init 19 rfl rfl
theorem dk_X0_init_39 : tvD cX0_init 39 (.newarray .int) 2 41 := tvDl_get dlk_X0_init 20 rfl rfl
theorem dk_X0_init_41 : tvD cX0_init 41 (.putfield 25) 3 44 := tvDl_get dlk_X0_init 21 rfl rfl
theorem dk_X0_init_44 : tvD cX0_init 44 (.aload_n 0) 1 45 := tvDl_get dlk_X0_init 22 rfl rfl
theorem dk_X0_init_45 : tvD cX0_init 45 (.bipush 10) 2 47 := tvDl_get dlk_X0_init 23 rfl rfl
theorem dk_X0_init_47 : tvD cX0_init 47 (.newarray .int) 2 49 := tvDl_get dlk_X0_init 24 rfl rfl
theorem dk_X0_init_49 : tvD cX0_init 49 (.putfield 28) 3 52 := tvDl_get dlk_X0_init 25 rfl rfl
theorem dk_X0_init_52 : tvD cX0_init 52 (.aload_n 0) 1 53 := tvDl_get dlk_X0_init 26 rfl rfl
theorem dk_X0_init_53 : tvD cX0_init 53 (.bipush 10) 2 55 := tvDl_get dlk_X0_init 27 rfl rfl
theorem dk_X0_init_55 : tvD cX0_init 55 (.newarray .int) 2 57 := tvDl_get dlk_X0_init 28 rfl rfl
theorem dk_X0_init_57 : tvD cX0_init 57 (.putfield 31) 3 60 := tvDl_get dlk_X0_init 29 rfl rfl
theorem dk_X0_init_60 : tvD cX0_init 60 (.aload_n 0) 1 61 := tvDl_get dlk_X0_init 30 rfl rfl
theorem dk_X0_init_61 : tvD cX0_init 61 (.bipush 10) 2 63 := tvDl_get dlk_X0_init 31 rfl rfl
theorem dk_X0_init_63 : tvD cX0_init 63 (.newarray .int) 2 65 := tvDl_get dlk_X0_init 32 rfl rfl
theorem dk_X0_init_65 : tvD cX0_init 65 (.putfield 34) 3 68 := tvDl_get dlk_X0_init 33 rfl rfl
theorem dk_X0_init_68 : tvD cX0_init 68 (.aload_n 0) 1 69 := tvDl_get dlk_X0_init 34 rfl rfl
theorem dk_X0_init_69 : tvD cX0_init 69 (.bipush 50) 2 71 := tvDl_get dlk_X0_init 35 rfl rfl
theorem dk_X0_init_71 : tvD cX0_init 71 (.newarray .int) 2 73 := tvDl_get dlk_X0_init 36 rfl rfl
theorem dk_X0_init_73 : tvD cX0_init 73 (.putfield 37) 3 76 := tvDl_get dlk_X0_init 37 rfl rfl
theorem dk_X0_init_76 : tvD cX0_init 76 (.return_) 1 77 := tvDl_get dlk_X0_init 38 rfl rfl
def dl_X2_init : List (Nat × Instr × Nat) := [(0, .aload_n 0, 1), (1, .invokespecial 3, 3), (4, .aload_n 0, 1), (5, .bipush 8, 2), (7, .newarray .int, 2), (9, .putfield 9, 3), (12, .aload_n 0, 1), (13, .bipush 8, 2), (15, .newarray .int, 2), (17, .putfield 15, 3), (20, .aload_n 0, 1), (21, .bipush 8, 2), (23, .newarray .int, 2), (25, .putfield 18, 3), (28, .return_, 1)]
theorem dlk_X2_init : tvDl cX2_init dl_X2_init = true := by decide +kernel
theorem dk_X2_init_0 : tvD cX2_init 0 (.aload_n 0) 1 1 := tvDl_get dlk_X2_init 0 rfl rfl
theorem dk_X2_init_1 : tvD cX2_init 1 (.invokespecial 3) 3 4 := tvDl_get dlk_X2_init 1 rfl rfl
theorem dk_X2_init_4 : tvD cX2_init 4 (.aload_n 0) 1 5 := tvDl_get dlk_X2_init 2 rfl rfl
theorem dk_X2_init_5 : tvD cX2_init 5 (.bipush 8) 2 7 := tvDl_get dlk_X2_init 3 rfl rfl
theorem dk_X2_init_7 : tvD cX2_init 7 (.newarray .int) 2 9 := tvDl_get dlk_X2_init 4 rfl rfl
theorem dk_X2_init_9 : tvD cX2_init 9 (.putfield 9) 3 12 := tvDl_get dlk_X2_init 5 rfl rfl
theorem dk_X2_init_12 : tvD cX2_init 12 (.aload_n 0) 1 13 := tvDl_get dlk_X2_init 6 rfl rfl
theorem dk_X2_init_13 : tvD cX2_init 13 (.bipush 8) 2 15 := tvDl_get dlk_X2_init 7 rfl rfl
theorem dk_X2_init_15 : tvD cX2_init 15 (.newarray .int) 2 17 := tvDl_get dlk_X2_init 8 rfl rfl
theorem dk_X2_init_17 : tvD cX2_init 17 (.putfield 15) 3 20 := tvDl_get dlk_X2_init 9 rfl rfl
theorem dk_X2_init_20 : tvD cX2_init 20 (.aload_n 0) 1 21 := tvDl_get dlk_X2_init 10 rfl rfl
theorem dk_X2_init_21 : tvD cX2_init 21 (.bipush 8) 2 23 := tvDl_get dlk_X2_init 11 rfl rfl
theorem dk_X2_init_23 : tvD cX2_init 23 (.newarray .int) 2 25 := tvDl_get dlk_X2_init 12 rfl rfl
theorem dk_X2_init_25 : tvD cX2_init 25 (.putfield 18) 3 28 := tvDl_get dlk_X2_init 13 rfl rfl
theorem dk_X2_init_28 : tvD cX2_init 28 (.return_) 1 29 := tvDl_get dlk_X2_init 14 rfl rfl
def dl_X3_init : List (Nat × Instr × Nat) := [(0, .aload_n 0, 1), (1, .invokespecial 3, 3), (4, .aload_n 0, 1), (5, .bipush 36, 2), (7, .newarray .char, 2), (9, .putfield 11, 3), (12, .return_, 1)]
theorem dlk_X3_init : tvDl cX3_init dl_X3_init = true := by decide +kernel
theorem dk_X3_init_0 : tvD cX3_init 0 (.aload_n 0) 1 1 := tvDl_get dlk_X3_init 0 rfl rfl
theorem dk_X3_init_1 : tvD cX3_init 1 (.invokespecial 3) 3 4 := tvDl_get dlk_X3_init 1 rfl rfl
theorem dk_X3_init_4 : tvD cX3_init 4 (.aload_n 0) 1 5 := tvDl_get dlk_X3_init 2 rfl rfl
theorem dk_X3_init_5 : tvD cX3_init 5 (.bipush 36) 2 7 := tvDl_get dlk_X3_init 3 rfl rfl
theorem dk_X3_init_7 : tvD cX3_init 7 (.newarray .char) 2 9 := tvDl_get dlk_X3_init 4 rfl rfl
theorem dk_X3_init_9 : tvD cX3_init 9 (.putfield 11) 3 12 := tvDl_get dlk_X3_init 5 rfl rfl
theorem dk_X3_init_12 : tvD cX3_init 12 (.return_) 1 13 := tvDl_get dlk_X3_init 6 rfl rfl
def dl_X4_init : List (Nat × Instr × Nat) := [(0, .aload_n 0, 1), (1, .invokespecial 3, 3), (4, .aload_n 0, 1), (5, .bipush 12, 2), (7, .newarray .char, 2), (9, .putfield 9, 3), (12, .aload_n 0, 1), (13, .bipush 12, 2), (15, .newarray .int, 2), (17, .putfield 15, 3), (20, .aload_n 0, 1), (21, .bipush 12, 2), (23, .newarray .int, 2), (25, .putfield 19, 3), (28, .return_, 1)]
theorem dlk_X4_init : tvDl cX4_init dl_X4_init = true := by decide +kernel
theorem dk_X4_init_0 : tvD cX4_init 0 (.aload_n 0) 1 1 := tvDl_get dlk_X4_init 0 rfl rfl
theorem dk_X4_init_1 : tvD cX4_init 1 (.invokespecial 3) 3 4 := tvDl_get dlk_X4_init 1 rfl rfl
theorem dk_X4_init_4 : tvD cX4_init 4 (.aload_n 0) 1 5 := tvDl_get dlk_X4_init 2 rfl rfl
theorem dk_X4_init_5 : tvD cX4_init 5 (.bipush 12) 2 7 := tvDl_get dlk_X4_init 3 rfl rfl
theorem dk_X4_init_7 : tvD cX4_init 7 (.newarray .char) 2 9 := tvDl_get dlk_X4_init 4 rfl rfl
theorem dk_X4_init_9 : tvD cX4_init 9 (.putfield 9) 3 12 := tvDl_get dlk_X4_init 5 rfl rfl
theorem dk_X4_init_12 : tvD cX4_init 12 (.aload_n 0) 1 13 := tvDl_get dlk_X4_init 6 rfl rfl
theorem dk_X4_init_13 : tvD cX4_init 13 (.bipush 12) 2 15 := tvDl_get dlk_X4_init 7 rfl rfl
theorem dk_X4_init_15 : tvD cX4_init 15 (.newarray .int) 2 17 := tvDl_get dlk_X4_init 8 rfl rfl
theorem dk_X4_init_17 : tvD cX4_init 17 (.putfield 15) 3 20 := tvDl_get dlk_X4_init 9 rfl rfl
theorem dk_X4_init_20 : tvD cX4_init 20 (.aload_n 0) 1 21 := tvDl_get dlk_X4_init 10 rfl rfl
theorem dk_X4_init_21 : tvD cX4_init 21 (.bipush 12) 2 23 := tvDl_get dlk_X4_init 11 rfl rfl
theorem dk_X4_init_23 : tvD cX4_init 23 (.newarray .int) 2 25 := tvDl_get dlk_X4_init 12 rfl rfl
theorem dk_X4_init_25 : tvD cX4_init 25 (.putfield 19) 3 28 := tvDl_get dlk_X4_init 13 rfl rfl
theorem dk_X4_init_28 : tvD cX4_init 28 (.return_) 1 29 := tvDl_get dlk_X4_init 14 rfl rfl
def dl_X5_init : List (Nat × Instr × Nat) := [(0, .aload_n 0, 1), (1, .invokespecial 3, 3), (4, .aload_n 0, 1), (5, .bipush 60, 2), (7, .newarray .char, 2), (9, .putfield 9, 3), (12, .aload_n 0, 1), (13, .bipush 60, 2), (15, .newarray .int, 2), (17, .putfield 15, 3), (20, .aload_n 0, 1), (21, .sipush 180, 3), (24, .newarray .int, 2), (26, .putfield 19, 3), (29, .return_, 1)]
theorem dlk_X5_init : tvDl cX5_init dl_X5_init = true := by decide +kernel
theorem dk_X5_init_0 : tvD cX5_init 0 (.aload_n 0) 1 1 := tvDl_get dlk_X5_init 0 rfl rfl
theorem dk_X5_init_1 : tvD cX5_init 1 (.invokespecial 3) 3 4 := tvDl_get dlk_X5_init 1 rfl rfl
theorem dk_X5_init_4 : tvD cX5_init 4 (.aload_n 0) 1 5 := tvDl_get dlk_X5_init 2 rfl rfl
theorem dk_X5_init_5 : tvD cX5_init 5 (.bipush 60) 2 7 := tvDl_get dlk_X5_init 3 rfl rfl
theorem dk_X5_init_7 : tvD cX5_init 7 (.newarray .char) 2 9 := tvDl_get dlk_X5_init 4 rfl rfl
theorem dk_X5_init_9 : tvD cX5_init 9 (.putfield 9) 3 12 := tvDl_get dlk_X5_init 5 rfl rfl
theorem dk_X5_init_12 : tvD cX5_init 12 (.aload_n 0) 1 13 := tvDl_get dlk_X5_init 6 rfl rfl
theorem dk_X5_init_13 : tvD cX5_init 13 (.bipush 60) 2 15 := tvDl_get dlk_X5_init 7 rfl rfl
theorem dk_X5_init_15 : tvD cX5_init 15 (.newarray .int) 2 17 := tvDl_get dlk_X5_init 8 rfl rfl
theorem dk_X5_init_17 : tvD cX5_init 17 (.putfield 15) 3 20 := tvDl_get dlk_X5_init 9 rfl rfl
theorem dk_X5_init_20 : tvD cX5_init 20 (.aload_n 0) 1 21 := tvDl_get dlk_X5_init 10 rfl rfl
theorem dk_X5_init_21 : tvD cX5_init 21 (.sipush 180) 3 24 := tvDl_get dlk_X5_init 11 rfl rfl
theorem dk_X5_init_24 : tvD cX5_init 24 (.newarray .int) 2 26 := tvDl_get dlk_X5_init 12 rfl rfl
theorem dk_X5_init_26 : tvD cX5_init 26 (.putfield 19) 3 29 := tvDl_get dlk_X5_init 13 rfl rfl
theorem dk_X5_init_29 : tvD cX5_init 29 (.return_) 1 30 := tvDl_get dlk_X5_init 14 rfl rfl
def dl_X6_init : List (Nat × Instr × Nat) := [(0, .aload_n 0, 1), (1, .invokespecial 3, 3), (4, .aload_n 0, 1), (5, .new 9, 3), (8, .dup, 1), (9, .invokespecial 11, 3), (12, .putfield 12, 3), (15, .aload_n 0, 1), (16, .new 18, 3), (19, .dup, 1), (20, .invokespecial 20, 3), (23, .putfield 21, 3), (26, .aload_n 0, 1), (27, .new 25, 3), (30, .dup, 1), (31, .invokespecial 27, 3), (34, .putfield 28, 3), (37, .aload_n 0, 1), (38, .new 32, 3), (41, .dup, 1), (42, .invokespecial 34, 3), (45, .putfield 35, 3), (48, .return_, 1)]
theorem dlk_X6_init : tvDl cX6_init dl_X6_init = true := by decide +kernel
theorem dk_X6_init_0 : tvD cX6_init 0 (.aload_n 0) 1 1 := tvDl_get dlk_X6_init 0 rfl rfl
theorem dk_X6_init_1 : tvD cX6_init 1 (.invokespecial 3) 3 4 := tvDl_get dlk_X6_init 1 rfl rfl
theorem dk_X6_init_4 : tvD cX6_init 4 (.aload_n 0) 1 5 := tvDl_get dlk_X6_init 2 rfl rfl
theorem dk_X6_init_5 : tvD cX6_init 5 (.new 9) 3 8 := tvDl_get dlk_X6_init 3 rfl rfl
theorem dk_X6_init_8 : tvD cX6_init 8 (.dup) 1 9 := tvDl_get dlk_X6_init 4 rfl rfl
theorem dk_X6_init_9 : tvD cX6_init 9 (.invokespecial 11) 3 12 := tvDl_get dlk_X6_init 5 rfl rfl
theorem dk_X6_init_12 : tvD cX6_init 12 (.putfield 12) 3 15 := tvDl_get dlk_X6_init 6 rfl rfl
theorem dk_X6_init_15 : tvD cX6_init 15 (.aload_n 0) 1 16 := tvDl_get dlk_X6_init 7 rfl rfl
theorem dk_X6_init_16 : tvD cX6_init 16 (.new 18) 3 19 := tvDl_get dlk_X6_init 8 rfl rfl
theorem dk_X6_init_19 : tvD cX6_init 19 (.dup) 1 20 := tvDl_get dlk_X6_init 9 rfl rfl
theorem dk_X6_init_20 : tvD cX6_init 20 (.invokespecial 20) 3 23 := tvDl_get dlk_X6_init 10 rfl rfl
theorem dk_X6_init_23 : tvD cX6_init 23 (.putfield 21) 3 26 := tvDl_get dlk_X6_init 11 rfl rfl
theorem dk_X6_init_26 : tvD cX6_init 26 (.aload_n 0) 1 27 := tvDl_get dlk_X6_init 12 rfl rfl
theorem dk_X6_init_27 : tvD cX6_init 27 (.new 25) 3 30 := tvDl_get dlk_X6_init 13 rfl rfl
theorem dk_X6_init_30 : tvD cX6_init 30 (.dup) 1 31 := tvDl_get dlk_X6_init 14 rfl rfl
theorem dk_X6_init_31 : tvD cX6_init 31 (.invokespecial 27) 3 34 := tvDl_get dlk_X6_init 15 rfl rfl
theorem dk_X6_init_34 : tvD cX6_init 34 (.putfield 28) 3 37 := tvDl_get dlk_X6_init 16 rfl rfl
theorem dk_X6_init_37 : tvD cX6_init 37 (.aload_n 0) 1 38 := tvDl_get dlk_X6_init 17 rfl rfl
theorem dk_X6_init_38 : tvD cX6_init 38 (.new 32) 3 41 := tvDl_get dlk_X6_init 18 rfl rfl
theorem dk_X6_init_41 : tvD cX6_init 41 (.dup) 1 42 := tvDl_get dlk_X6_init 19 rfl rfl
theorem dk_X6_init_42 : tvD cX6_init 42 (.invokespecial 34) 3 45 := tvDl_get dlk_X6_init 20 rfl rfl
theorem dk_X6_init_45 : tvD cX6_init 45 (.putfield 35) 3 48 := tvDl_get dlk_X6_init 21 rfl rfl
theorem dk_X6_init_48 : tvD cX6_init 48 (.return_) 1 49 := tvDl_get dlk_X6_init 22 rfl rfl
def dl_X7_init : List (Nat × Instr × Nat) := [(0, .aload_n 0, 1), (1, .invokespecial 1, 3), (4, .aload_n 0, 1), (5, .sipush 240, 3), (8, .putfield 7, 3), (11, .aload_n 0, 1), (12, .bipush 60, 2), (14, .putfield 13, 3), (17, .return_, 1)]
theorem dlk_X7_init : tvDl cX7_init dl_X7_init = true := by decide +kernel
theorem dk_X7_init_0 : tvD cX7_init 0 (.aload_n 0) 1 1 := tvDl_get dlk_X7_init 0 rfl rfl
theorem dk_X7_init_1 : tvD cX7_init 1 (.invokespecial 1) 3 4 := tvDl_get dlk_X7_init 1 rfl rfl
theorem dk_X7_init_4 : tvD cX7_init 4 (.aload_n 0) 1 5 := tvDl_get dlk_X7_init 2 rfl rfl
theorem dk_X7_init_5 : tvD cX7_init 5 (.sipush 240) 3 8 := tvDl_get dlk_X7_init 3 rfl rfl
theorem dk_X7_init_8 : tvD cX7_init 8 (.putfield 7) 3 11 := tvDl_get dlk_X7_init 4 rfl rfl
theorem dk_X7_init_11 : tvD cX7_init 11 (.aload_n 0) 1 12 := tvDl_get dlk_X7_init 5 rfl rfl
theorem dk_X7_init_12 : tvD cX7_init 12 (.bipush 60) 2 14 := tvDl_get dlk_X7_init 6 rfl rfl
theorem dk_X7_init_14 : tvD cX7_init 14 (.putfield 13) 3 17 := tvDl_get dlk_X7_init 7 rfl rfl
theorem dk_X7_init_17 : tvD cX7_init 17 (.return_) 1 18 := tvDl_get dlk_X7_init 8 rfl rfl
theorem fo_RX0_9 : tvFo RX0 9 0 1 true := ⟨_, _, _, rfl, by decide, rfl, tvIn_0, rfl, rfl, tvgc (tvc_3 (List.mem_of_getElem? (i := 75) (by decide +kernel))) rfl, tyX0_ok, nmX0, rfl⟩
theorem fo_RX0_15 : tvFo RX0 15 0 2 true := ⟨_, _, _, rfl, by decide, rfl, tvIn_0, rfl, rfl, tvgc (tvc_3 (List.mem_of_getElem? (i := 76) (by decide +kernel))) rfl, tyX0_ok, nmX0, rfl⟩
theorem fo_RX0_18 : tvFo RX0 18 0 3 true := ⟨_, _, _, rfl, by decide, rfl, tvIn_0, rfl, rfl, tvgc (tvc_3 (List.mem_of_getElem? (i := 77) (by decide +kernel))) rfl, tyX0_ok, nmX0, rfl⟩
theorem fo_RX0_21 : tvFo RX0 21 0 4 true := ⟨_, _, _, rfl, by decide, rfl, tvIn_0, rfl, rfl, tvgc (tvc_3 (List.mem_of_getElem? (i := 78) (by decide +kernel))) rfl, tyX0_ok, nmX0, rfl⟩
theorem fo_RX0_25 : tvFo RX0 25 0 5 true := ⟨_, _, _, rfl, by decide, rfl, tvIn_0, rfl, rfl, tvgc (tvc_3 (List.mem_of_getElem? (i := 79) (by decide +kernel))) rfl, tyX0_ok, nmX0, rfl⟩
theorem fo_RX0_28 : tvFo RX0 28 0 6 true := ⟨_, _, _, rfl, by decide, rfl, tvIn_0, rfl, rfl, tvgc (tvc_3 (List.mem_of_getElem? (i := 80) (by decide +kernel))) rfl, tyX0_ok, nmX0, rfl⟩
theorem fo_RX0_31 : tvFo RX0 31 0 7 true := ⟨_, _, _, rfl, by decide, rfl, tvIn_0, rfl, rfl, tvgc (tvc_3 (List.mem_of_getElem? (i := 81) (by decide +kernel))) rfl, tyX0_ok, nmX0, rfl⟩
theorem fo_RX0_34 : tvFo RX0 34 0 8 true := ⟨_, _, _, rfl, by decide, rfl, tvIn_0, rfl, rfl, tvgc (tvc_3 (List.mem_of_getElem? (i := 82) (by decide +kernel))) rfl, tyX0_ok, nmX0, rfl⟩
theorem fo_RX0_37 : tvFo RX0 37 0 9 true := ⟨_, _, _, rfl, by decide, rfl, tvIn_0, rfl, rfl, tvgc (tvc_3 (List.mem_of_getElem? (i := 83) (by decide +kernel))) rfl, tyX0_ok, nmX0, rfl⟩
theorem fo_RX2_9 : tvFo RX2 9 2 1 true := ⟨_, _, _, rfl, by decide, rfl, tvIn_2, rfl, rfl, tvgc (tvc_3 (List.mem_of_getElem? (i := 54) (by decide +kernel))) rfl, tyX2_ok, nmX2, rfl⟩
theorem fo_RX2_15 : tvFo RX2 15 2 2 true := ⟨_, _, _, rfl, by decide, rfl, tvIn_2, rfl, rfl, tvgc (tvc_3 (List.mem_of_getElem? (i := 55) (by decide +kernel))) rfl, tyX2_ok, nmX2, rfl⟩
theorem fo_RX2_18 : tvFo RX2 18 2 3 true := ⟨_, _, _, rfl, by decide, rfl, tvIn_2, rfl, rfl, tvgc (tvc_3 (List.mem_of_getElem? (i := 56) (by decide +kernel))) rfl, tyX2_ok, nmX2, rfl⟩
theorem fo_RX3_11 : tvFo RX3 11 3 0 true := ⟨_, _, _, rfl, by decide, rfl, tvIn_3, rfl, rfl, tvgc (tvc_3 (List.mem_of_getElem? (i := 215) (by decide +kernel))) rfl, tyX3_ok, nmX3, rfl⟩
theorem fo_RX4_9 : tvFo RX4 9 4 2 true := ⟨_, _, _, rfl, by decide, rfl, tvIn_4, rfl, rfl, tvgc (tvc_3 (List.mem_of_getElem? (i := 114) (by decide +kernel))) rfl, tyX4_ok, nmX4, rfl⟩
theorem fo_RX4_15 : tvFo RX4 15 4 3 true := ⟨_, _, _, rfl, by decide, rfl, tvIn_4, rfl, rfl, tvgc (tvc_3 (List.mem_of_getElem? (i := 115) (by decide +kernel))) rfl, tyX4_ok, nmX4, rfl⟩
theorem fo_RX4_19 : tvFo RX4 19 4 4 true := ⟨_, _, _, rfl, by decide, rfl, tvIn_4, rfl, rfl, tvgc (tvc_3 (List.mem_of_getElem? (i := 116) (by decide +kernel))) rfl, tyX4_ok, nmX4, rfl⟩
theorem fo_RX5_9 : tvFo RX5 9 5 0 true := ⟨_, _, _, rfl, by decide, rfl, tvIn_5, rfl, rfl, tvgc (tvc_3 (List.mem_of_getElem? (i := 189) (by decide +kernel))) rfl, tyX5_ok, nmX5, rfl⟩
theorem fo_RX5_15 : tvFo RX5 15 5 4 true := ⟨_, _, _, rfl, by decide, rfl, tvIn_5, rfl, rfl, tvgc (tvc_3 (List.mem_of_getElem? (i := 194) (by decide +kernel))) rfl, tyX5_ok, nmX5, rfl⟩
theorem fo_RX5_19 : tvFo RX5 19 5 5 true := ⟨_, _, _, rfl, by decide, rfl, tvIn_5, rfl, rfl, tvgc (tvc_3 (List.mem_of_getElem? (i := 195) (by decide +kernel))) rfl, tyX5_ok, nmX5, rfl⟩
theorem fo_RX6_12 : tvFo RX6 12 6 0 true := ⟨_, _, _, rfl, by decide, rfl, tvIn_6, rfl, rfl, tvgc (tvc_3 (List.mem_of_getElem? (i := 128) (by decide +kernel))) rfl, tyX6_ok, nmX6, rfl⟩
theorem fo_RX6_21 : tvFo RX6 21 6 1 true := ⟨_, _, _, rfl, by decide, rfl, tvIn_6, rfl, rfl, tvgc (tvc_3 (List.mem_of_getElem? (i := 130) (by decide +kernel))) rfl, tyX6_ok, nmX6, rfl⟩
theorem fo_RX6_28 : tvFo RX6 28 6 2 true := ⟨_, _, _, rfl, by decide, rfl, tvIn_6, rfl, rfl, tvgc (tvc_3 (List.mem_of_getElem? (i := 132) (by decide +kernel))) rfl, tyX6_ok, nmX6, rfl⟩
theorem fo_RX6_35 : tvFo RX6 35 6 3 true := ⟨_, _, _, rfl, by decide, rfl, tvIn_6, rfl, rfl, tvgc (tvc_3 (List.mem_of_getElem? (i := 134) (by decide +kernel))) rfl, tyX6_ok, nmX6, rfl⟩
theorem fo_RX7_7 : tvFo RX7 7 7 0 false := ⟨_, _, _, rfl, by decide, rfl, tvIn_7, rfl, rfl, tvgc (tvc_3 (List.mem_of_getElem? (i := 38) (by decide +kernel))) rfl, tyX7_ok, nmX7, rfl⟩
theorem fo_RX7_13 : tvFo RX7 13 7 1 false := ⟨_, _, _, rfl, by decide, rfl, tvIn_7, rfl, rfl, tvgc (tvc_3 (List.mem_of_getElem? (i := 39) (by decide +kernel))) rfl, tyX7_ok, nmX7, rfl⟩
theorem nw_RX6_9 : tvNw RX6 9 7 := ⟨_, _, _, rfl, rfl, tvIn_7, tyX7_ok, tvgc (tvc_3 (List.mem_of_getElem? (i := 33) (by decide +kernel))) rfl, tvgc (tvc_1 (List.mem_of_getElem? (i := 187) (by decide +kernel))) rfl, tvgc (tvc_1 (List.mem_of_getElem? (i := 3) (by decide +kernel))) rfl, by decide⟩
theorem nw_RX6_18 : tvNw RX6 18 2 := ⟨_, _, _, rfl, rfl, tvIn_2, tyX2_ok, tvgc (tvc_3 (List.mem_of_getElem? (i := 45) (by decide +kernel))) rfl, tvgc (tvc_3 (List.mem_of_getElem? (i := 46) (by decide +kernel))) rfl, tvgc (tvc_1 (List.mem_of_getElem? (i := 4) (by decide +kernel))) rfl, by decide⟩
theorem nw_RX6_25 : tvNw RX6 25 0 := ⟨_, _, _, rfl, rfl, tvIn_0, tyX0_ok, tvgc (tvc_3 (List.mem_of_getElem? (i := 67) (by decide +kernel))) rfl, tvgc (tvc_2 (List.mem_of_getElem? (i := 224) (by decide +kernel))) rfl, tvgc (tvc_1 (List.mem_of_getElem? (i := 5) (by decide +kernel))) rfl, by decide⟩
theorem nw_RX6_32 : tvNw RX6 32 4 := ⟨_, _, _, rfl, rfl, tvIn_4, tyX4_ok, tvgc (tvc_3 (List.mem_of_getElem? (i := 106) (by decide +kernel))) rfl, tvgc (tvc_2 (List.mem_of_getElem? (i := 5) (by decide +kernel))) rfl, tvgc (tvc_1 (List.mem_of_getElem? (i := 6) (by decide +kernel))) rfl, by decide⟩
theorem ym_X0_init : Cond.instanceMethod yX0_init ∈ tvGW := tvgc (tvc_3 (List.mem_of_getElem? (i := 69) (by decide +kernel))) rfl
theorem ym_X2_init : Cond.instanceMethod yX2_init ∈ tvGW := tvgc (tvc_3 (List.mem_of_getElem? (i := 48) (by decide +kernel))) rfl
theorem ym_X4_init : Cond.instanceMethod yX4_init ∈ tvGW := tvgc (tvc_3 (List.mem_of_getElem? (i := 108) (by decide +kernel))) rfl
theorem ym_X7_init : Cond.instanceMethod yX7_init ∈ tvGW := tvgc (tvc_3 (List.mem_of_getElem? (i := 35) (by decide +kernel))) rfl
theorem mn_RX6_11 : Cond.methodLinkNest RX6 11 yX7_init "TideVault" ∈ tvNest := tvn 541 (by decide +kernel) rfl
theorem mn_RX6_20 : Cond.methodLinkNest RX6 20 yX2_init "TideVault" ∈ tvNest := tvn 554 (by decide +kernel) rfl
theorem mn_RX6_27 : Cond.methodLinkNest RX6 27 yX0_init "TideVault" ∈ tvNest := tvn 575 (by decide +kernel) rfl
theorem mn_RX6_34 : Cond.methodLinkNest RX6 34 yX4_init "TideVault" ∈ tvNest := tvn 614 (by decide +kernel) rfl
