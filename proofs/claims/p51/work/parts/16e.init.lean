theorem ml_RX8_24 : Cond.methodLink RX8 24 yX1_init ∈ tvGW := tvgc (tvc_3 (List.mem_of_getElem? (i := 165) (by decide +kernel))) rfl
theorem yk_X1_init : tvYk yX1_init cX1_init 2 none 0 := ⟨tvgc (tvc_3 (List.mem_of_getElem? (i := 167) (by decide +kernel))) rfl, tvgc (tvc_1 (List.mem_of_getElem? (i := 7) (by decide +kernel))) rfl, by decide +kernel, by decide +kernel, plainFor_of_name (by decide +kernel)⟩
theorem yk_X8_init : tvYk yX8_init cX8_init 1 none 0 := ⟨tvgc (tvc_3 (List.mem_of_getElem? (i := 26) (by decide +kernel))) rfl, tvgc (tvc_1 (List.mem_of_getElem? (i := 1) (by decide +kernel))) rfl, by decide +kernel, by decide +kernel, plainFor_of_name (by decide +kernel)⟩
def dl_X1_init : List (Nat × Instr × Nat) := [(0, .aload_n 0, 1), (1, .invokespecial 3, 3), (4, .aload_n 0, 1), (5, .bipush 9, 2), (7, .anewarray 11, 3), (10, .putfield 13, 3), (13, .iconst 0, 1), (14, .istore_n 1, 1), (15, .iload_n 1, 1), (16, .bipush 9, 2), (18, .if_icmp .ge 22, 3), (21, .aload_n 0, 1), (22, .getfield 13, 3), (25, .iload_n 1, 1), (26, .new 11, 3), (29, .dup, 1), (30, .invokespecial 17, 3), (33, .aastore, 1), (34, .iinc 1 1, 3), (37, .goto (-22), 3), (40, .return_, 1)]
theorem dlk_X1_init : tvDl cX1_init dl_X1_init = true := by decide +kernel
theorem dk_X1_init_0 : tvD cX1_init 0 (.aload_n 0) 1 1 := tvDl_get dlk_X1_init 0 rfl rfl
theorem dk_X1_init_1 : tvD cX1_init 1 (.invokespecial 3) 3 4 := tvDl_get dlk_X1_init 1 rfl rfl
theorem dk_X1_init_4 : tvD cX1_init 4 (.aload_n 0) 1 5 := tvDl_get dlk_X1_init 2 rfl rfl
theorem dk_X1_init_5 : tvD cX1_init 5 (.bipush 9) 2 7 := tvDl_get dlk_X1_init 3 rfl rfl
theorem dk_X1_init_7 : tvD cX1_init 7 (.anewarray 11) 3 10 := tvDl_get dlk_X1_init 4 rfl rfl
theorem dk_X1_init_10 : tvD cX1_init 10 (.putfield 13) 3 13 := tvDl_get dlk_X1_init 5 rfl rfl
theorem dk_X1_init_13 : tvD cX1_init 13 (.iconst 0) 1 14 := tvDl_get dlk_X1_init 6 rfl rfl
theorem dk_X1_init_14 : tvD cX1_init 14 (.istore_n 1) 1 15 := tvDl_get dlk_X1_init 7 rfl rfl
theorem dk_X1_init_15 : tvD cX1_init 15 (.iload_n 1) 1 16 := tvDl_get dlk_X1_init 8 rfl rfl
theorem dk_X1_init_16 : tvD cX1_init 16 (.bipush 9) 2 18 := tvDl_get dlk_X1_init 9 rfl rfl
theorem dk_X1_init_18 : tvJ cX1_init 18 (.if_icmp .ge) 40 21 := tvJl_get dlk_X1_init 10 rfl (by decide) rfl
theorem dk_X1_init_21 : tvD cX1_init 21 (.aload_n 0) 1 22 := tvDl_get dlk_X1_init 11 rfl rfl
theorem dk_X1_init_22 : tvD cX1_init 22 (.getfield 13) 3 25 := tvDl_get dlk_X1_init 12 rfl rfl
theorem dk_X1_init_25 : tvD cX1_init 25 (.iload_n 1) 1 26 := tvDl_get dlk_X1_init 13 rfl rfl
theorem dk_X1_init_26 : tvD cX1_init 26 (.new 11) 3 29 := tvDl_get dlk_X1_init 14 rfl rfl
theorem dk_X1_init_29 : tvD cX1_init 29 (.dup) 1 30 := tvDl_get dlk_X1_init 15 rfl rfl
theorem dk_X1_init_30 : tvD cX1_init 30 (.invokespecial 17) 3 33 := tvDl_get dlk_X1_init 16 rfl rfl
theorem dk_X1_init_33 : tvD cX1_init 33 (.aastore) 1 34 := tvDl_get dlk_X1_init 17 rfl rfl
theorem dk_X1_init_34 : tvD cX1_init 34 (.iinc 1 1) 3 37 := tvDl_get dlk_X1_init 18 rfl rfl
theorem dk_X1_init_37 : tvJ cX1_init 37 .goto 15 40 := tvJl_get dlk_X1_init 19 rfl (by decide) rfl
theorem dk_X1_init_40 : tvD cX1_init 40 (.return_) 1 41 := tvDl_get dlk_X1_init 20 rfl rfl
def dl_X8_init : List (Nat × Instr × Nat) := [(0, .aload_n 0, 1), (1, .invokespecial 3, 3), (4, .aload_n 0, 1), (5, .new 9, 3), (8, .dup, 1), (9, .invokespecial 11, 3), (12, .putfield 12, 3), (15, .aload_n 0, 1), (16, .new 9, 3), (19, .dup, 1), (20, .invokespecial 11, 3), (23, .putfield 16, 3), (26, .aload_n 0, 1), (27, .new 9, 3), (30, .dup, 1), (31, .invokespecial 11, 3), (34, .putfield 19, 3), (37, .aload_n 0, 1), (38, .new 22, 3), (41, .dup, 1), (42, .invokespecial 24, 3), (45, .putfield 25, 3), (48, .aload_n 0, 1), (49, .new 29, 3), (52, .dup, 1), (53, .invokespecial 31, 3), (56, .putfield 32, 3), (59, .aload_n 0, 1), (60, .new 36, 3), (63, .dup, 1), (64, .invokespecial 38, 3), (67, .putfield 39, 3), (70, .aload_n 0, 1), (71, .iconst (-1), 1), (72, .putfield 43, 3), (75, .aload_n 0, 1), (76, .iconst (-1), 1), (77, .putfield 47, 3), (80, .return_, 1)]
theorem dlk_X8_init : tvDl cX8_init dl_X8_init = true := by decide +kernel
theorem dk_X8_init_0 : tvD cX8_init 0 (.aload_n 0) 1 1 := tvDl_get dlk_X8_init 0 rfl rfl
theorem dk_X8_init_1 : tvD cX8_init 1 (.invokespecial 3) 3 4 := tvDl_get dlk_X8_init 1 rfl rfl
theorem dk_X8_init_4 : tvD cX8_init 4 (.aload_n 0) 1 5 := tvDl_get dlk_X8_init 2 rfl rfl
theorem dk_X8_init_5 : tvD cX8_init 5 (.new 9) 3 8 := tvDl_get dlk_X8_init 3 rfl rfl
theorem dk_X8_init_8 : tvD cX8_init 8 (.dup) 1 9 := tvDl_get dlk_X8_init 4 rfl rfl
theorem dk_X8_init_9 : tvD cX8_init 9 (.invokespecial 11) 3 12 := tvDl_get dlk_X8_init 5 rfl rfl
theorem dk_X8_init_12 : tvD cX8_init 12 (.putfield 12) 3 15 := tvDl_get dlk_X8_init 6 rfl rfl
theorem dk_X8_init_15 : tvD cX8_init 15 (.aload_n 0) 1 16 := tvDl_get dlk_X8_init 7 rfl rfl
theorem dk_X8_init_16 : tvD cX8_init 16 (.new 9) 3 19 := tvDl_get dlk_X8_init 8 rfl rfl
theorem dk_X8_init_19 : tvD cX8_init 19 (.dup) 1 20 := tvDl_get dlk_X8_init 9 rfl rfl
theorem dk_X8_init_20 : tvD cX8_init 20 (.invokespecial 11) 3 23 := tvDl_get dlk_X8_init 10 rfl rfl
theorem dk_X8_init_23 : tvD cX8_init 23 (.putfield 16) 3 26 := tvDl_get dlk_X8_init 11 rfl rfl
theorem dk_X8_init_26 : tvD cX8_init 26 (.aload_n 0) 1 27 := tvDl_get dlk_X8_init 12 rfl rfl
theorem dk_X8_init_27 : tvD cX8_init 27 (.new 9) 3 30 := tvDl_get dlk_X8_init 13 rfl rfl
theorem dk_X8_init_30 : tvD cX8_init 30 (.dup) 1 31 := tvDl_get dlk_X8_init 14 rfl rfl
theorem dk_X8_init_31 : tvD cX8_init 31 (.invokespecial 11) 3 34 := tvDl_get dlk_X8_init 15 rfl rfl
theorem dk_X8_init_34 : tvD cX8_init 34 (.putfield 19) 3 37 := tvDl_get dlk_X8_init 16 rfl rfl
theorem dk_X8_init_37 : tvD cX8_init 37 (.aload_n 0) 1 38 := tvDl_get dlk_X8_init 17 rfl rfl
theorem dk_X8_init_38 : tvD cX8_init 38 (.new 22) 3 41 := tvDl_get dlk_X8_init 18 rfl rfl
theorem dk_X8_init_41 : tvD cX8_init 41 (.dup) 1 42 := tvDl_get dlk_X8_init 19 rfl rfl
theorem dk_X8_init_42 : tvD cX8_init 42 (.invokespecial 24) 3 45 := tvDl_get dlk_X8_init 20 rfl rfl
theorem dk_X8_init_45 : tvD cX8_init 45 (.putfield 25) 3 48 := tvDl_get dlk_X8_init 21 rfl rfl
theorem dk_X8_init_48 : tvD cX8_init 48 (.aload_n 0) 1 49 := tvDl_get dlk_X8_init 22 rfl rfl
theorem dk_X8_init_49 : tvD cX8_init 49 (.new 29) 3 52 := tvDl_get dlk_X8_init 23 rfl rfl
theorem dk_X8_init_52 : tvD cX8_init 52 (.dup) 1 53 := tvDl_get dlk_X8_init 24 rfl rfl
theorem dk_X8_init_53 : tvD cX8_init 53 (.invokespecial 31) 3 56 := tvDl_get dlk_X8_init 25 rfl rfl
theorem dk_X8_init_56 : tvD cX8_init 56 (.putfield 32) 3 59 := tvDl_get dlk_X8_init 26 rfl rfl
theorem dk_X8_init_59 : tvD cX8_init 59 (.aload_n 0) 1 60 := tvDl_get dlk_X8_init 27 rfl rfl
theorem dk_X8_init_60 : tvD cX8_init 60 (.new 36) 3 63 := tvDl_get dlk_X8_init 28 rfl rfl
theorem dk_X8_init_63 : tvD cX8_init 63 (.dup) 1 64 := tvDl_get dlk_X8_init 29 rfl rfl
theorem dk_X8_init_64 : tvD cX8_init 64 (.invokespecial 38) 3 67 := tvDl_get dlk_X8_init 30 rfl rfl
theorem dk_X8_init_67 : tvD cX8_init 67 (.putfield 39) 3 70 := tvDl_get dlk_X8_init 31 rfl rfl
theorem dk_X8_init_70 : tvD cX8_init 70 (.aload_n 0) 1 71 := tvDl_get dlk_X8_init 32 rfl rfl
theorem dk_X8_init_71 : tvD cX8_init 71 (.iconst (-1)) 1 72 := tvDl_get dlk_X8_init 33 rfl rfl
theorem dk_X8_init_72 : tvD cX8_init 72 (.putfield 43) 3 75 := tvDl_get dlk_X8_init 34 rfl rfl
theorem dk_X8_init_75 : tvD cX8_init 75 (.aload_n 0) 1 76 := tvDl_get dlk_X8_init 35 rfl rfl
theorem dk_X8_init_76 : tvD cX8_init 76 (.iconst (-1)) 1 77 := tvDl_get dlk_X8_init 36 rfl rfl
theorem dk_X8_init_77 : tvD cX8_init 77 (.putfield 47) 3 80 := tvDl_get dlk_X8_init 37 rfl rfl
theorem dk_X8_init_80 : tvD cX8_init 80 (.return_) 1 81 := tvDl_get dlk_X8_init 38 rfl rfl
theorem fo_RX8_12 : tvFo RX8 12 8 0 true := ⟨_, _, _, rfl, by decide, rfl, tvIn_8, rfl, rfl, tvgc (tvc_3 (List.mem_of_getElem? (i := 223) (by decide +kernel))) rfl, tyX8_ok, nmX8, rfl⟩
theorem fo_RX8_16 : tvFo RX8 16 8 1 true := ⟨_, _, _, rfl, by decide, rfl, tvIn_8, rfl, rfl, tvgc (tvc_3 (List.mem_of_getElem? (i := 224) (by decide +kernel))) rfl, tyX8_ok, nmX8, rfl⟩
theorem fo_RX8_19 : tvFo RX8 19 8 2 true := ⟨_, _, _, rfl, by decide, rfl, tvIn_8, rfl, rfl, tvgc (tvc_3 (List.mem_of_getElem? (i := 225) (by decide +kernel))) rfl, tyX8_ok, nmX8, rfl⟩
theorem fo_RX8_25 : tvFo RX8 25 8 3 true := ⟨_, _, _, rfl, by decide, rfl, tvIn_8, rfl, rfl, tvgc (tvc_3 (List.mem_of_getElem? (i := 226) (by decide +kernel))) rfl, tyX8_ok, nmX8, rfl⟩
theorem fo_RX8_32 : tvFo RX8 32 8 4 true := ⟨_, _, _, rfl, by decide, rfl, tvIn_8, rfl, rfl, tvgc (tvc_3 (List.mem_of_getElem? (i := 227) (by decide +kernel))) rfl, tyX8_ok, nmX8, rfl⟩
theorem fo_RX8_39 : tvFo RX8 39 8 5 true := ⟨_, _, _, rfl, by decide, rfl, tvIn_8, rfl, rfl, tvgc (tvc_3 (List.mem_of_getElem? (i := 228) (by decide +kernel))) rfl, tyX8_ok, nmX8, rfl⟩
theorem fo_RX8_43 : tvFo RX8 43 8 7 false := ⟨_, _, _, rfl, by decide, rfl, tvIn_8, rfl, rfl, tvgc (tvc_3 (List.mem_of_getElem? (i := 230) (by decide +kernel))) rfl, tyX8_ok, nmX8, rfl⟩
theorem fo_RX8_47 : tvFo RX8 47 8 8 false := ⟨_, _, _, rfl, by decide, rfl, tvIn_8, rfl, rfl, tvgc (tvc_3 (List.mem_of_getElem? (i := 231) (by decide +kernel))) rfl, tyX8_ok, nmX8, rfl⟩
theorem fo_RX1_13 : tvFo RX1 13 1 0 true := ⟨_, _, _, rfl, by decide, rfl, tvIn_1, rfl, rfl, tvgc (tvc_3 (List.mem_of_getElem? (i := 172) (by decide +kernel))) rfl, tyX1_ok, nmX1, rfl⟩
theorem nw_RX8_9 : tvNw RX8 9 6 := ⟨_, _, _, rfl, rfl, tvIn_6, tyX6_ok, tvgc (tvc_3 (List.mem_of_getElem? (i := 28) (by decide +kernel))) rfl, tvgc (tvc_2 (List.mem_of_getElem? (i := 56) (by decide +kernel))) rfl, tvgc (tvc_1 (List.mem_of_getElem? (i := 2) (by decide +kernel))) rfl, by decide⟩
theorem nw_RX8_22 : tvNw RX8 22 1 := ⟨_, _, _, rfl, rfl, tvIn_1, tyX1_ok, tvgc (tvc_3 (List.mem_of_getElem? (i := 163) (by decide +kernel))) rfl, tvgc (tvc_3 (List.mem_of_getElem? (i := 164) (by decide +kernel))) rfl, tvgc (tvc_1 (List.mem_of_getElem? (i := 7) (by decide +kernel))) rfl, by decide⟩
theorem nw_RX8_29 : tvNw RX8 29 5 := ⟨_, _, _, rfl, rfl, tvIn_5, tyX5_ok, tvgc (tvc_3 (List.mem_of_getElem? (i := 183) (by decide +kernel))) rfl, tvgc (tvc_3 (List.mem_of_getElem? (i := 184) (by decide +kernel))) rfl, tvgc (tvc_1 (List.mem_of_getElem? (i := 8) (by decide +kernel))) rfl, by decide⟩
theorem nw_RX8_36 : tvNw RX8 36 3 := ⟨_, _, _, rfl, rfl, tvIn_3, tyX3_ok, tvgc (tvc_3 (List.mem_of_getElem? (i := 209) (by decide +kernel))) rfl, tvgc (tvc_3 (List.mem_of_getElem? (i := 210) (by decide +kernel))) rfl, tvgc (tvc_1 (List.mem_of_getElem? (i := 9) (by decide +kernel))) rfl, by decide⟩
theorem nw_RX1_11 : tvNw RX1 11 6 := ⟨_, _, _, rfl, rfl, tvIn_6, tyX6_ok, tvgc (tvc_3 (List.mem_of_getElem? (i := 169) (by decide +kernel))) rfl, tvgc (tvc_2 (List.mem_of_getElem? (i := 56) (by decide +kernel))) rfl, tvgc (tvc_1 (List.mem_of_getElem? (i := 2) (by decide +kernel))) rfl, by decide⟩
theorem ym_X1_init : Cond.instanceMethod yX1_init ∈ tvGW := tvgc (tvc_3 (List.mem_of_getElem? (i := 166) (by decide +kernel))) rfl
theorem ym_X3_init : Cond.instanceMethod yX3_init ∈ tvGW := tvgc (tvc_3 (List.mem_of_getElem? (i := 212) (by decide +kernel))) rfl
theorem ym_X5_init : Cond.instanceMethod yX5_init ∈ tvGW := tvgc (tvc_3 (List.mem_of_getElem? (i := 186) (by decide +kernel))) rfl
theorem ym_X6_init : Cond.instanceMethod yX6_init ∈ tvGW := tvgc (tvc_3 (List.mem_of_getElem? (i := 30) (by decide +kernel))) rfl
theorem mn_RX8_11 : Cond.methodLinkNest RX8 11 yX6_init "TideVault" ∈ tvNest := tvn 536 (by decide +kernel) rfl
theorem mn_RX8_31 : Cond.methodLinkNest RX8 31 yX5_init "TideVault" ∈ tvNest := tvn 692 (by decide +kernel) rfl
theorem mn_RX8_38 : Cond.methodLinkNest RX8 38 yX3_init "TideVault" ∈ tvNest := tvn 718 (by decide +kernel) rfl
theorem mn_RX1_17 : Cond.methodLinkNest RX1 17 yX6_init "TideVault" ∈ tvNest := tvn 678 (by decide +kernel) rfl
