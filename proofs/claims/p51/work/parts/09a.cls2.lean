theorem ml_RX0_84 : Cond.methodLink RX0 84 yX0_valueOf ∈ tvGW := tvgc (tvc_2 (List.mem_of_getElem? (i := 231) (by decide +kernel))) rfl
theorem ml_RX0_87 : Cond.methodLink RX0 87 yX0_sumIn ∈ tvGW := tvgc (tvc_2 (List.mem_of_getElem? (i := 226) (by decide +kernel))) rfl
theorem ml_RX0_90 : Cond.methodLink RX0 90 yX0_rankOf ∈ tvGW := tvgc (tvc_2 (List.mem_of_getElem? (i := 221) (by decide +kernel))) rfl
theorem yk_X0_atRank : tvYk yX0_atRank cX0_atRank 3 (some .int) 1 := ⟨tvgc (tvc_2 (List.mem_of_getElem? (i := 220) (by decide +kernel))) rfl, tvgc (tvc_1 (List.mem_of_getElem? (i := 5) (by decide +kernel))) rfl, by decide +kernel, by decide +kernel, plainFor_of_name (by decide +kernel)⟩
theorem yi_X0_atRank : tvYi yX0_atRank := ⟨tvgc (tvc_2 (List.mem_of_getElem? (i := 218) (by decide +kernel))) rfl, tvgc (tvc_2 (List.mem_of_getElem? (i := 219) (by decide +kernel))) rfl⟩
theorem yk_X0_countDown : tvYk yX0_countDown cX0_countDown 2 none 0 := ⟨tvgc (tvc_2 (List.mem_of_getElem? (i := 173) (by decide +kernel))) rfl, tvgc (tvc_1 (List.mem_of_getElem? (i := 5) (by decide +kernel))) rfl, by decide +kernel, by decide +kernel, plainFor_of_name (by decide +kernel)⟩
theorem yi_X0_countDown : tvYi yX0_countDown := ⟨tvgc (tvc_2 (List.mem_of_getElem? (i := 171) (by decide +kernel))) rfl, tvgc (tvc_2 (List.mem_of_getElem? (i := 172) (by decide +kernel))) rfl⟩
theorem yk_X0_rankOf : tvYk yX0_rankOf cX0_rankOf 6 (some .int) 1 := ⟨tvgc (tvc_2 (List.mem_of_getElem? (i := 225) (by decide +kernel))) rfl, tvgc (tvc_1 (List.mem_of_getElem? (i := 5) (by decide +kernel))) rfl, by decide +kernel, by decide +kernel, plainFor_of_name (by decide +kernel)⟩
theorem yi_X0_rankOf : tvYi yX0_rankOf := ⟨tvgc (tvc_2 (List.mem_of_getElem? (i := 223) (by decide +kernel))) rfl, tvg 8 (by decide +kernel) rfl⟩
theorem yk_X0_sumIn : tvYk yX0_sumIn cX0_sumIn 4 (some .int) 1 := ⟨tvgc (tvc_2 (List.mem_of_getElem? (i := 229) (by decide +kernel))) rfl, tvgc (tvc_1 (List.mem_of_getElem? (i := 5) (by decide +kernel))) rfl, by decide +kernel, by decide +kernel, plainFor_of_name (by decide +kernel)⟩
theorem yi_X0_sumIn : tvYi yX0_sumIn := ⟨tvgc (tvc_2 (List.mem_of_getElem? (i := 227) (by decide +kernel))) rfl, tvgc (tvc_2 (List.mem_of_getElem? (i := 228) (by decide +kernel))) rfl⟩
theorem yk_X0_sumOfAll : tvYk yX0_sumOfAll cX0_sumOfAll 4 (some .long) 0 := ⟨tvgc (tvc_7 (List.mem_of_getElem? (i := 26) (by decide +kernel))) rfl, tvgc (tvc_1 (List.mem_of_getElem? (i := 5) (by decide +kernel))) rfl, by decide +kernel, by decide +kernel, plainFor_of_name (by decide +kernel)⟩
theorem yi_X0_sumOfAll : tvYi yX0_sumOfAll := ⟨tvgc (tvc_7 (List.mem_of_getElem? (i := 24) (by decide +kernel))) rfl, tvgc (tvc_7 (List.mem_of_getElem? (i := 25) (by decide +kernel))) rfl⟩
theorem yk_X0_takeBest : tvYk yX0_takeBest cX0_takeBest 6 (some .int) 1 := ⟨tvgc (tvc_4 (List.mem_of_getElem? (i := 201) (by decide +kernel))) rfl, tvgc (tvc_1 (List.mem_of_getElem? (i := 5) (by decide +kernel))) rfl, by decide +kernel, by decide +kernel, plainFor_of_name (by decide +kernel)⟩
theorem yi_X0_takeBest : tvYi yX0_takeBest := ⟨tvgc (tvc_4 (List.mem_of_getElem? (i := 199) (by decide +kernel))) rfl, tvgc (tvc_4 (List.mem_of_getElem? (i := 200) (by decide +kernel))) rfl⟩
def dl_X0_atRank : List (Nat × Instr × Nat) := [(0, .iconst 0, 1), (1, .istore_n 2, 1), (2, .iload_n 2, 1), (3, .aload_n 0, 1), (4, .getfield 40, 3), (7, .if_icmp .ge 20, 3), (10, .aload_n 0, 1), (11, .iload_n 2, 1), (12, .invokevirtual 90, 3), (15, .iload_n 1, 1), (16, .if_icmp .ne 5, 3), (19, .iload_n 2, 1), (20, .ireturn, 1), (21, .iinc 2 1, 3), (24, .goto (-22), 3), (27, .iconst (-1), 1), (28, .ireturn, 1)]
theorem dlk_X0_atRank : tvDl cX0_atRank dl_X0_atRank = true := by decide +kernel
theorem dk_X0_atRank_0 : tvD cX0_atRank 0 (.iconst 0) 1 1 := tvDl_get dlk_X0_atRank 0 rfl rfl
theorem dk_X0_atRank_1 : tvD cX0_atRank 1 (.istore_n 2) 1 2 := tvDl_get dlk_X0_atRank 1 rfl rfl
theorem dk_X0_atRank_2 : tvD cX0_atRank 2 (.iload_n 2) 1 3 := tvDl_get dlk_X0_atRank 2 rfl rfl
theorem dk_X0_atRank_3 : tvD cX0_atRank 3 (.aload_n 0) 1 4 := tvDl_get dlk_X0_atRank 3 rfl rfl
theorem dk_X0_atRank_4 : tvD cX0_atRank 4 (.getfield 40) 3 7 := tvDl_get dlk_X0_atRank 4 rfl rfl
theorem dk_X0_atRank_7 : tvJ cX0_atRank 7 (.if_icmp .ge) 27 10 := tvJl_get dlk_X0_atRank 5 rfl (by decide) rfl
theorem dk_X0_atRank_10 : tvD cX0_atRank 10 (.aload_n 0) 1 11 := tvDl_get dlk_X0_atRank 6 rfl rfl
theorem dk_X0_atRank_11 : tvD cX0_atRank 11 (.iload_n 2) 1 12 := tvDl_get dlk_X0_atRank 7 rfl rfl
theorem dk_X0_atRank_12 : tvD cX0_atRank 12 (.invokevirtual 90) 3 15 := tvDl_get dlk_X0_atRank 8 rfl rfl
theorem dk_X0_atRank_15 : tvD cX0_atRank 15 (.iload_n 1) 1 16 := tvDl_get dlk_X0_atRank 9 rfl rfl
theorem dk_X0_atRank_16 : tvJ cX0_atRank 16 (.if_icmp .ne) 21 19 := tvJl_get dlk_X0_atRank 10 rfl (by decide) rfl
theorem dk_X0_atRank_19 : tvD cX0_atRank 19 (.iload_n 2) 1 20 := tvDl_get dlk_X0_atRank 11 rfl rfl
theorem dk_X0_atRank_20 : tvD cX0_atRank 20 (.ireturn) 1 21 := tvDl_get dlk_X0_atRank 12 rfl rfl
theorem dk_X0_atRank_21 : tvD cX0_atRank 21 (.iinc 2 1) 3 24 := tvDl_get dlk_X0_atRank 13 rfl rfl
theorem dk_X0_atRank_24 : tvJ cX0_atRank 24 .goto 2 27 := tvJl_get dlk_X0_atRank 14 rfl (by decide) rfl
theorem dk_X0_atRank_27 : tvD cX0_atRank 27 (.iconst (-1)) 1 28 := tvDl_get dlk_X0_atRank 15 rfl rfl
theorem dk_X0_atRank_28 : tvD cX0_atRank 28 (.ireturn) 1 29 := tvDl_get dlk_X0_atRank 16 rfl rfl
def dl_X0_countDown : List (Nat × Instr × Nat) := [(0, .iconst 0, 1), (1, .istore_n 1, 1), (2, .iload_n 1, 1), (3, .aload_n 0, 1), (4, .getfield 40, 3), (7, .if_icmp .ge 47, 3), (10, .aload_n 0, 1), (11, .iload_n 1, 1), (12, .invokevirtual 50, 3), (15, .ifCond .eq 33, 3), (18, .aload_n 0, 1), (19, .getfield 21, 3), (22, .iload_n 1, 1), (23, .caload, 1), (24, .bipush 112, 2), (26, .if_icmp .ne 22, 3), (29, .aload_n 0, 1), (30, .getfield 28, 3), (33, .iload_n 1, 1), (34, .iaload, 1), (35, .ifCond .le 13, 3), (38, .aload_n 0, 1), (39, .getfield 28, 3), (42, .iload_n 1, 1), (43, .dup2, 1), (44, .iaload, 1), (45, .iconst 1, 1), (46, .isub, 1), (47, .iastore, 1), (48, .iinc 1 1, 3), (51, .goto (-49), 3), (54, .return_, 1)]
theorem dlk_X0_countDown : tvDl cX0_countDown dl_X0_countDown = true := by decide +kernel
theorem dk_X0_countDown_0 : tvD cX0_countDown 0 (.iconst 0) 1 1 := tvDl_get dlk_X0_countDown 0 rfl rfl
theorem dk_X0_countDown_1 : tvD cX0_countDown 1 (.istore_n 1) 1 2 := tvDl_get dlk_X0_countDown 1 rfl rfl
theorem dk_X0_countDown_2 : tvD cX0_countDown 2 (.iload_n 1) 1 3 := tvDl_get dlk_X0_countDown 2 rfl rfl
theorem dk_X0_countDown_3 : tvD cX0_countDown 3 (.aload_n 0) 1 4 := tvDl_get dlk_X0_countDown 3 rfl rfl
theorem dk_X0_countDown_4 : tvD cX0_countDown 4 (.getfield 40) 3 7 := tvDl_get dlk_X0_countDown 4 rfl rfl
theorem dk_X0_countDown_7 : tvJ cX0_countDown 7 (.if_icmp .ge) 54 10 := tvJl_get dlk_X0_countDown 5 rfl (by decide) rfl
theorem dk_X0_countDown_10 : tvD cX0_countDown 10 (.aload_n 0) 1 11 := tvDl_get dlk_X0_countDown 6 rfl rfl
theorem dk_X0_countDown_11 : tvD cX0_countDown 11 (.iload_n 1) 1 12 := tvDl_get dlk_X0_countDown 7 rfl rfl
theorem dk_X0_countDown_12 : tvD cX0_countDown 12 (.invokevirtual 50) 3 15 := tvDl_get dlk_X0_countDown 8 rfl rfl
theorem dk_X0_countDown_15 : tvJ cX0_countDown 15 (.ifCond .eq) 48 18 := tvJl_get dlk_X0_countDown 9 rfl (by decide) rfl
theorem dk_X0_countDown_18 : tvD cX0_countDown 18 (.aload_n 0) 1 19 := tvDl_get dlk_X0_countDown 10 rfl rfl
theorem dk_X0_countDown_19 : tvD cX0_countDown 19 (.getfield 21) 3 22 := tvDl_get dlk_X0_countDown 11 rfl rfl
theorem dk_X0_countDown_22 : tvD cX0_countDown 22 (.iload_n 1) 1 23 := tvDl_get dlk_X0_countDown 12 rfl rfl
theorem dk_X0_countDown_23 : tvD cX0_countDown 23 (.caload) 1 24 := tvDl_get dlk_X0_countDown 13 rfl rfl
theorem dk_X0_countDown_24 : tvD cX0_countDown 24 (.bipush 112) 2 26 := tvDl_get dlk_X0_countDown 14 rfl rfl
theorem dk_X0_countDown_26 : tvJ cX0_countDown 26 (.if_icmp .ne) 48 29 := tvJl_get dlk_X0_countDown 15 rfl (by decide) rfl
theorem dk_X0_countDown_29 : tvD cX0_countDown 29 (.aload_n 0) 1 30 := tvDl_get dlk_X0_countDown 16 rfl rfl
theorem dk_X0_countDown_30 : tvD cX0_countDown 30 (.getfield 28) 3 33 := tvDl_get dlk_X0_countDown 17 rfl rfl
theorem dk_X0_countDown_33 : tvD cX0_countDown 33 (.iload_n 1) 1 34 := tvDl_get dlk_X0_countDown 18 rfl rfl
theorem dk_X0_countDown_34 : tvD cX0_countDown 34 (.iaload) 1 35 := tvDl_get dlk_X0_countDown 19 rfl rfl
theorem dk_X0_countDown_35 : tvJ cX0_countDown 35 (.ifCond .le) 48 38 := tvJl_get dlk_X0_countDown 20 rfl (by decide) rfl
theorem dk_X0_countDown_38 : tvD cX0_countDown 38 (.aload_n 0) 1 39 := tvDl_get dlk_X0_countDown 21 rfl rfl
theorem dk_X0_countDown_39 : tvD cX0_countDown 39 (.getfield 28) 3 42 := tvDl_get dlk_X0_countDown 22 rfl rfl
theorem dk_X0_countDown_42 : tvD cX0_countDown 42 (.iload_n 1) 1 43 := tvDl_get dlk_X0_countDown 23 rfl rfl
theorem dk_X0_countDown_43 : tvD cX0_countDown 43 (.dup2) 1 44 := tvDl_get dlk_X0_countDown 24 rfl rfl
theorem dk_X0_countDown_44 : tvD cX0_countDown 44 (.iaload) 1 45 := tvDl_get dlk_X0_countDown 25 rfl rfl
theorem dk_X0_countDown_45 : tvD cX0_countDown 45 (.iconst 1) 1 46 := tvDl_get dlk_X0_countDown 26 rfl rfl
theorem dk_X0_countDown_46 : tvD cX0_countDown 46 (.isub) 1 47 := tvDl_get dlk_X0_countDown 27 rfl rfl
theorem dk_X0_countDown_47 : tvD cX0_countDown 47 (.iastore) 1 48 := tvDl_get dlk_X0_countDown 28 rfl rfl
theorem dk_X0_countDown_48 : tvD cX0_countDown 48 (.iinc 1 1) 3 51 := tvDl_get dlk_X0_countDown 29 rfl rfl
theorem dk_X0_countDown_51 : tvJ cX0_countDown 51 .goto 2 54 := tvJl_get dlk_X0_countDown 30 rfl (by decide) rfl
theorem dk_X0_countDown_54 : tvD cX0_countDown 54 (.return_) 1 55 := tvDl_get dlk_X0_countDown 31 rfl rfl
def dl_X0_rankOf : List (Nat × Instr × Nat) := [(0, .aload_n 0, 1), (1, .iload_n 1, 1), (2, .invokevirtual 87, 3), (5, .istore_n 2, 1), (6, .iconst 0, 1), (7, .istore_n 3, 1), (8, .iconst 0, 1), (9, .istore 4, 2), (11, .iload 4, 2), (13, .aload_n 0, 1), (14, .getfield 40, 3), (17, .if_icmp .ge 38, 3), (20, .aload_n 0, 1), (21, .iload 4, 2), (23, .invokevirtual 87, 3), (26, .istore 5, 2), (28, .iload 5, 2), (30, .iload_n 2, 1), (31, .if_icmp .gt 15, 3), (34, .iload 5, 2), (36, .iload_n 2, 1), (37, .if_icmp .ne 12, 3), (40, .iload 4, 2), (42, .iload_n 1, 1), (43, .if_icmp .ge 6, 3), (46, .iinc 3 1, 3), (49, .iinc 4 1, 3), (52, .goto (-41), 3), (55, .iload_n 3, 1), (56, .ireturn, 1)]
theorem dlk_X0_rankOf : tvDl cX0_rankOf dl_X0_rankOf = true := by decide +kernel
theorem dk_X0_rankOf_0 : tvD cX0_rankOf 0 (.aload_n 0) 1 1 := tvDl_get dlk_X0_rankOf 0 rfl rfl
theorem dk_X0_rankOf_1 : tvD cX0_rankOf 1 (.iload_n 1) 1 2 := tvDl_get dlk_X0_rankOf 1 rfl rfl
theorem dk_X0_rankOf_2 : tvD cX0_rankOf 2 (.invokevirtual 87) 3 5 := tvDl_get dlk_X0_rankOf 2 rfl rfl
theorem dk_X0_rankOf_5 : tvD cX0_rankOf 5 (.istore_n 2) 1 6 := tvDl_get dlk_X0_rankOf 3 rfl rfl
theorem dk_X0_rankOf_6 : tvD cX0_rankOf 6 (.iconst 0) 1 7 := tvDl_get dlk_X0_rankOf 4 rfl rfl
theorem dk_X0_rankOf_7 : tvD cX0_rankOf 7 (.istore_n 3) 1 8 := tvDl_get dlk_X0_rankOf 5 rfl rfl
theorem dk_X0_rankOf_8 : tvD cX0_rankOf 8 (.iconst 0) 1 9 := tvDl_get dlk_X0_rankOf 6 rfl rfl
theorem dk_X0_rankOf_9 : tvD cX0_rankOf 9 (.istore 4) 2 11 := tvDl_get dlk_X0_rankOf 7 rfl rfl
theorem dk_X0_rankOf_11 : tvD cX0_rankOf 11 (.iload 4) 2 13 := tvDl_get dlk_X0_rankOf 8 rfl rfl
theorem dk_X0_rankOf_13 : tvD cX0_rankOf 13 (.aload_n 0) 1 14 := tvDl_get dlk_X0_rankOf 9 rfl rfl
theorem dk_X0_rankOf_14 : tvD cX0_rankOf 14 (.getfield 40) 3 17 := tvDl_get dlk_X0_rankOf 10 rfl rfl
theorem dk_X0_rankOf_17 : tvJ cX0_rankOf 17 (.if_icmp .ge) 55 20 := tvJl_get dlk_X0_rankOf 11 rfl (by decide) rfl
theorem dk_X0_rankOf_20 : tvD cX0_rankOf 20 (.aload_n 0) 1 21 := tvDl_get dlk_X0_rankOf 12 rfl rfl
theorem dk_X0_rankOf_21 : tvD cX0_rankOf 21 (.iload 4) 2 23 := tvDl_get dlk_X0_rankOf 13 rfl rfl
theorem dk_X0_rankOf_23 : tvD cX0_rankOf 23 (.invokevirtual 87) 3 26 := tvDl_get dlk_X0_rankOf 14 rfl rfl
theorem dk_X0_rankOf_26 : tvD cX0_rankOf 26 (.istore 5) 2 28 := tvDl_get dlk_X0_rankOf 15 rfl rfl
theorem dk_X0_rankOf_28 : tvD cX0_rankOf 28 (.iload 5) 2 30 := tvDl_get dlk_X0_rankOf 16 rfl rfl
theorem dk_X0_rankOf_30 : tvD cX0_rankOf 30 (.iload_n 2) 1 31 := tvDl_get dlk_X0_rankOf 17 rfl rfl
theorem dk_X0_rankOf_31 : tvJ cX0_rankOf 31 (.if_icmp .gt) 46 34 := tvJl_get dlk_X0_rankOf 18 rfl (by decide) rfl
theorem dk_X0_rankOf_34 : tvD cX0_rankOf 34 (.iload 5) 2 36 := tvDl_get dlk_X0_rankOf 19 rfl rfl
theorem dk_X0_rankOf_36 : tvD cX0_rankOf 36 (.iload_n 2) 1 37 := tvDl_get dlk_X0_rankOf 20 rfl rfl
theorem dk_X0_rankOf_37 : tvJ cX0_rankOf 37 (.if_icmp .ne) 49 40 := tvJl_get dlk_X0_rankOf 21 rfl (by decide) rfl
theorem dk_X0_rankOf_40 : tvD cX0_rankOf 40 (.iload 4) 2 42 := tvDl_get dlk_X0_rankOf 22 rfl rfl
theorem dk_X0_rankOf_42 : tvD cX0_rankOf 42 (.iload_n 1) 1 43 := tvDl_get dlk_X0_rankOf 23 rfl rfl
theorem dk_X0_rankOf_43 : tvJ cX0_rankOf 43 (.if_icmp .ge) 49 46 := tvJl_get dlk_X0_rankOf 24 rfl (by decide) rfl
theorem dk_X0_rankOf_46 : tvD cX0_rankOf 46 (.iinc 3 1) 3 49 := tvDl_get dlk_X0_rankOf 25 rfl rfl
theorem dk_X0_rankOf_49 : tvD cX0_rankOf 49 (.iinc 4 1) 3 52 := tvDl_get dlk_X0_rankOf 26 rfl rfl
theorem dk_X0_rankOf_52 : tvJ cX0_rankOf 52 .goto 11 55 := tvJl_get dlk_X0_rankOf 27 rfl (by decide) rfl
theorem dk_X0_rankOf_55 : tvD cX0_rankOf 55 (.iload_n 3) 1 56 := tvDl_get dlk_X0_rankOf 28 rfl rfl
theorem dk_X0_rankOf_56 : tvD cX0_rankOf 56 (.ireturn) 1 57 := tvDl_get dlk_X0_rankOf 29 rfl rfl
def dl_X0_sumIn : List (Nat × Instr × Nat) := [(0, .iconst 0, 1), (1, .istore_n 2, 1), (2, .iconst 0, 1), (3, .istore_n 3, 1), (4, .iload_n 3, 1), (5, .aload_n 0, 1), (6, .iload_n 1, 1), (7, .invokevirtual 73, 3), (10, .if_icmp .ge 18, 3), (13, .iload_n 2, 1), (14, .aload_n 0, 1), (15, .iload_n 1, 1), (16, .iload_n 3, 1), (17, .invokevirtual 84, 3), (20, .iadd, 1), (21, .istore_n 2, 1), (22, .iinc 3 1, 3), (25, .goto (-21), 3), (28, .iload_n 2, 1), (29, .ireturn, 1)]
theorem dlk_X0_sumIn : tvDl cX0_sumIn dl_X0_sumIn = true := by decide +kernel
theorem dk_X0_sumIn_0 : tvD cX0_sumIn 0 (.iconst 0) 1 1 := tvDl_get dlk_X0_sumIn 0 rfl rfl
theorem dk_X0_sumIn_1 : tvD cX0_sumIn 1 (.istore_n 2) 1 2 := tvDl_get dlk_X0_sumIn 1 rfl rfl
theorem dk_X0_sumIn_2 : tvD cX0_sumIn 2 (.iconst 0) 1 3 := tvDl_get dlk_X0_sumIn 2 rfl rfl
theorem dk_X0_sumIn_3 : tvD cX0_sumIn 3 (.istore_n 3) 1 4 := tvDl_get dlk_X0_sumIn 3 rfl rfl
theorem dk_X0_sumIn_4 : tvD cX0_sumIn 4 (.iload_n 3) 1 5 := tvDl_get dlk_X0_sumIn 4 rfl rfl
theorem dk_X0_sumIn_5 : tvD cX0_sumIn 5 (.aload_n 0) 1 6 := tvDl_get dlk_X0_sumIn 5 rfl rfl
theorem dk_X0_sumIn_6 : tvD cX0_sumIn 6 (.iload_n 1) 1 7 := tvDl_get dlk_X0_sumIn 6 rfl rfl
theorem dk_X0_sumIn_7 : tvD cX0_sumIn 7 (.invokevirtual 73) 3 10 := tvDl_get dlk_X0_sumIn 7 rfl rfl
theorem dk_X0_sumIn_10 : tvJ cX0_sumIn 10 (.if_icmp .ge) 28 13 := tvJl_get dlk_X0_sumIn 8 rfl (by decide) rfl
theorem dk_X0_sumIn_13 : tvD cX0_sumIn 13 (.iload_n 2) 1 14 := tvDl_get dlk_X0_sumIn 9 rfl rfl
theorem dk_X0_sumIn_14 : tvD cX0_sumIn 14 (.aload_n 0) 1 15 := tvDl_get dlk_X0_sumIn 10 rfl rfl
theorem dk_X0_sumIn_15 : tvD cX0_sumIn 15 (.iload_n 1) 1 16 := tvDl_get dlk_X0_sumIn 11 rfl rfl
theorem dk_X0_sumIn_16 : tvD cX0_sumIn 16 (.iload_n 3) 1 17 := tvDl_get dlk_X0_sumIn 12 rfl rfl
theorem dk_X0_sumIn_17 : tvD cX0_sumIn 17 (.invokevirtual 84) 3 20 := tvDl_get dlk_X0_sumIn 13 rfl rfl
theorem dk_X0_sumIn_20 : tvD cX0_sumIn 20 (.iadd) 1 21 := tvDl_get dlk_X0_sumIn 14 rfl rfl
theorem dk_X0_sumIn_21 : tvD cX0_sumIn 21 (.istore_n 2) 1 22 := tvDl_get dlk_X0_sumIn 15 rfl rfl
theorem dk_X0_sumIn_22 : tvD cX0_sumIn 22 (.iinc 3 1) 3 25 := tvDl_get dlk_X0_sumIn 16 rfl rfl
theorem dk_X0_sumIn_25 : tvJ cX0_sumIn 25 .goto 4 28 := tvJl_get dlk_X0_sumIn 17 rfl (by decide) rfl
theorem dk_X0_sumIn_28 : tvD cX0_sumIn 28 (.iload_n 2) 1 29 := tvDl_get dlk_X0_sumIn 18 rfl rfl
theorem dk_X0_sumIn_29 : tvD cX0_sumIn 29 (.ireturn) 1 30 := tvDl_get dlk_X0_sumIn 19 rfl rfl
def dl_X0_sumOfAll : List (Nat × Instr × Nat) := [(0, .lconst 0, 1), (1, .lstore_n 1, 1), (2, .iconst 0, 1), (3, .istore_n 3, 1), (4, .iload_n 3, 1), (5, .aload_n 0, 1), (6, .getfield 40, 3), (9, .if_icmp .ge 18, 3), (12, .lload_n 1, 1), (13, .aload_n 0, 1), (14, .iload_n 3, 1), (15, .invokevirtual 87, 3), (18, .i2l, 1), (19, .ladd, 1), (20, .lstore_n 1, 1), (21, .iinc 3 1, 3), (24, .goto (-20), 3), (27, .lload_n 1, 1), (28, .lreturn, 1)]
theorem dlk_X0_sumOfAll : tvDl cX0_sumOfAll dl_X0_sumOfAll = true := by decide +kernel
theorem dk_X0_sumOfAll_0 : tvD cX0_sumOfAll 0 (.lconst 0) 1 1 := tvDl_get dlk_X0_sumOfAll 0 rfl rfl
theorem dk_X0_sumOfAll_1 : tvD cX0_sumOfAll 1 (.lstore_n 1) 1 2 := tvDl_get dlk_X0_sumOfAll 1 rfl rfl
theorem dk_X0_sumOfAll_2 : tvD cX0_sumOfAll 2 (.iconst 0) 1 3 := tvDl_get dlk_X0_sumOfAll 2 rfl rfl
theorem dk_X0_sumOfAll_3 : tvD cX0_sumOfAll 3 (.istore_n 3) 1 4 := tvDl_get dlk_X0_sumOfAll 3 rfl rfl
theorem dk_X0_sumOfAll_4 : tvD cX0_sumOfAll 4 (.iload_n 3) 1 5 := tvDl_get dlk_X0_sumOfAll 4 rfl rfl
theorem dk_X0_sumOfAll_5 : tvD cX0_sumOfAll 5 (.aload_n 0) 1 6 := tvDl_get dlk_X0_sumOfAll 5 rfl rfl
theorem dk_X0_sumOfAll_6 : tvD cX0_sumOfAll 6 (.getfield 40) 3 9 := tvDl_get dlk_X0_sumOfAll 6 rfl rfl
theorem dk_X0_sumOfAll_9 : tvJ cX0_sumOfAll 9 (.if_icmp .ge) 27 12 := tvJl_get dlk_X0_sumOfAll 7 rfl (by decide) rfl
theorem dk_X0_sumOfAll_12 : tvD cX0_sumOfAll 12 (.lload_n 1) 1 13 := tvDl_get dlk_X0_sumOfAll 8 rfl rfl
theorem dk_X0_sumOfAll_13 : tvD cX0_sumOfAll 13 (.aload_n 0) 1 14 := tvDl_get dlk_X0_sumOfAll 9 rfl rfl
theorem dk_X0_sumOfAll_14 : tvD cX0_sumOfAll 14 (.iload_n 3) 1 15 := tvDl_get dlk_X0_sumOfAll 10 rfl rfl
theorem dk_X0_sumOfAll_15 : tvD cX0_sumOfAll 15 (.invokevirtual 87) 3 18 := tvDl_get dlk_X0_sumOfAll 11 rfl rfl
theorem dk_X0_sumOfAll_18 : tvD cX0_sumOfAll 18 (.i2l) 1 19 := tvDl_get dlk_X0_sumOfAll 12 rfl rfl
theorem dk_X0_sumOfAll_19 : tvD cX0_sumOfAll 19 (.ladd) 1 20 := tvDl_get dlk_X0_sumOfAll 13 rfl rfl
theorem dk_X0_sumOfAll_20 : tvD cX0_sumOfAll 20 (.lstore_n 1) 1 21 := tvDl_get dlk_X0_sumOfAll 14 rfl rfl
theorem dk_X0_sumOfAll_21 : tvD cX0_sumOfAll 21 (.iinc 3 1) 3 24 := tvDl_get dlk_X0_sumOfAll 15 rfl rfl
theorem dk_X0_sumOfAll_24 : tvJ cX0_sumOfAll 24 .goto 4 27 := tvJl_get dlk_X0_sumOfAll 16 rfl (by decide) rfl
theorem dk_X0_sumOfAll_27 : tvD cX0_sumOfAll 27 (.lload_n 1) 1 28 := tvDl_get dlk_X0_sumOfAll 17 rfl rfl
theorem dk_X0_sumOfAll_28 : tvD cX0_sumOfAll 28 (.lreturn) 1 29 := tvDl_get dlk_X0_sumOfAll 18 rfl rfl
def dl_X0_takeBest : List (Nat × Instr × Nat) := [(0, .aload_n 0, 1), (1, .iload_n 1, 1), (2, .invokevirtual 73, 3), (5, .istore_n 2, 1), (6, .iconst 0, 1), (7, .istore_n 3, 1), (8, .iconst 1, 1), (9, .istore 4, 2), (11, .iload 4, 2), (13, .iload_n 2, 1), (14, .if_icmp .ge 28, 3), (17, .aload_n 0, 1), (18, .iload_n 1, 1), (19, .iload 4, 2), (21, .invokevirtual 84, 3), (24, .aload_n 0, 1), (25, .iload_n 1, 1), (26, .iload_n 3, 1), (27, .invokevirtual 84, 3), (30, .if_icmp .le 6, 3), (33, .iload 4, 2), (35, .istore_n 3, 1), (36, .iinc 4 1, 3), (39, .goto (-28), 3), (42, .aload_n 0, 1), (43, .iload_n 1, 1), (44, .iload_n 3, 1), (45, .invokevirtual 84, 3), (48, .istore 4, 2), (50, .iload_n 3, 1), (51, .iconst 1, 1), (52, .iadd, 1), (53, .istore 5, 2), (55, .iload 5, 2), (57, .iload_n 2, 1), (58, .if_icmp .ge 25, 3), (61, .aload_n 0, 1), (62, .iload_n 1, 1), (63, .iload 5, 2), (65, .iconst 1, 1), (66, .isub, 1), (67, .aload_n 0, 1), (68, .iload_n 1, 1), (69, .iload 5, 2), (71, .invokevirtual 84, 3), (74, .invokevirtual 76, 3), (77, .iinc 5 1, 3), (80, .goto (-25), 3), (83, .aload_n 0, 1), (84, .iload_n 1, 1), (85, .iload_n 2, 1), (86, .iconst 1, 1), (87, .isub, 1), (88, .invokevirtual 80, 3), (91, .pop, 1), (92, .iload 4, 2), (94, .ireturn, 1)]
theorem dlk_X0_takeBest : tvDl cX0_takeBest dl_X0_takeBest = true := by decide +kernel
theorem dk_X0_takeBest_0 : tvD cX0_takeBest 0 (.aload_n 0) 1 1 := tvDl_get dlk_X0_takeBest 0 rfl rfl
theorem dk_X0_takeBest_1 : tvD cX0_takeBest 1 (.iload_n 1) 1 2 := tvDl_get dlk_X0_takeBest 1 rfl rfl
theorem dk_X0_takeBest_2 : tvD cX0_takeBest 2 (.invokevirtual 73) 3 5 := tvDl_get dlk_X0_takeBest 2 rfl rfl
theorem dk_X0_takeBest_5 : tvD cX0_takeBest 5 (.istore_n 2) 1 6 := tvDl_get dlk_X0_takeBest 3 rfl rfl
theorem dk_X0_takeBest_6 : tvD cX0_takeBest 6 (.iconst 0) 1 7 := tvDl_get dlk_X0_takeBest 4 rfl rfl
theorem dk_X0_takeBest_7 : tvD cX0_takeBest 7 (.istore_n 3) 1 8 := tvDl_get dlk_X0_takeBest 5 rfl rfl
theorem dk_X0_takeBest_8 : tvD cX0_takeBest 8 (.iconst 1) 1 9 := tvDl_get dlk_X0_takeBest 6 rfl rfl
theorem dk_X0_takeBest_9 : tvD cX0_takeBest 9 (.istore 4) 2 11 := tvDl_get dlk_X0_takeBest 7 rfl rfl
theorem dk_X0_takeBest_11 : tvD cX0_takeBest 11 (.iload 4) 2 13 := tvDl_get dlk_X0_takeBest 8 rfl rfl
theorem dk_X0_takeBest_13 : tvD cX0_takeBest 13 (.iload_n 2) 1 14 := tvDl_get dlk_X0_takeBest 9 rfl rfl
theorem dk_X0_takeBest_14 : tvJ cX0_takeBest 14 (.if_icmp .ge) 42 17 := tvJl_get dlk_X0_takeBest 10 rfl (by decide) rfl
theorem dk_X0_takeBest_17 : tvD cX0_takeBest 17 (.aload_n 0) 1 18 := tvDl_get dlk_X0_takeBest 11 rfl rfl
theorem dk_X0_takeBest_18 : tvD cX0_takeBest 18 (.iload_n 1) 1 19 := tvDl_get dlk_X0_takeBest 12 rfl rfl
theorem dk_X0_takeBest_19 : tvD cX0_takeBest 19 (.iload 4) 2 21 := tvDl_get dlk_X0_takeBest 13 rfl rfl
theorem dk_X0_takeBest_21 : tvD cX0_takeBest 21 (.invokevirtual 84) 3 24 := tvDl_get dlk_X0_takeBest 14 rfl rfl
theorem dk_X0_takeBest_24 : tvD cX0_takeBest 24 (.aload_n 0) 1 25 := tvDl_get dlk_X0_takeBest 15 rfl rfl
theorem dk_X0_takeBest_25 : tvD cX0_takeBest 25 (.iload_n 1) 1 26 := tvDl_get dlk_X0_takeBest 16 rfl rfl
theorem dk_X0_takeBest_26 : tvD cX0_takeBest 26 (.iload_n 3) 1 27 := tvDl_get dlk_X0_takeBest 17 rfl rfl
theorem dk_X0_takeBest_27 : tvD cX0_takeBest 27 (.invokevirtual 84) 3 30 := tvDl_get dlk_X0_takeBest 18 rfl rfl
theorem dk_X0_takeBest_30 : tvJ cX0_takeBest 30 (.if_icmp .le) 36 33 := tvJl_get dlk_X0_takeBest 19 rfl (by decide) rfl
theorem dk_X0_takeBest_33 : tvD cX0_takeBest 33 (.iload 4) 2 35 := tvDl_get dlk_X0_takeBest 20 rfl rfl
theorem dk_X0_takeBest_35 : tvD cX0_takeBest 35 (.istore_n 3) 1 36 := tvDl_get dlk_X0_takeBest 21 rfl rfl
theorem dk_X0_takeBest_36 : tvD cX0_takeBest 36 (.iinc 4 1) 3 39 := tvDl_get dlk_X0_takeBest 22 rfl rfl
theorem dk_X0_takeBest_39 : tvJ cX0_takeBest 39 .goto 11 42 := tvJl_get dlk_X0_takeBest 23 rfl (by decide) rfl
theorem dk_X0_takeBest_42 : tvD cX0_takeBest 42 (.aload_n 0) 1 43 := tvDl_get dlk_X0_takeBest 24 rfl rfl
theorem dk_X0_takeBest_43 : tvD cX0_takeBest 43 (.iload_n 1) 1 44 := tvDl_get dlk_X0_takeBest 25 rfl rfl
theorem dk_X0_takeBest_44 : tvD cX0_takeBest 44 (.iload_n 3) 1 45 := tvDl_get dlk_X0_takeBest 26 rfl rfl
theorem dk_X0_takeBest_45 : tvD cX0_takeBest 45 (.invokevirtual 84) 3 48 := tvDl_get dlk_X0_takeBest 27 rfl rfl
theorem dk_X0_takeBest_48 : tvD cX0_takeBest 48 (.istore 4) 2 50 := tvDl_get dlk_X0_takeBest 28 rfl rfl
theorem dk_X0_takeBest_50 : tvD cX0_takeBest 50 (.iload_n 3) 1 51 := tvDl_get dlk_X0_takeBest 29 rfl rfl
theorem dk_X0_takeBest_51 : tvD cX0_takeBest 51 (.iconst 1) 1 52 := tvDl_get dlk_X0_takeBest 30 rfl rfl
theorem dk_X0_takeBest_52 : tvD cX0_takeBest 52 (.iadd) 1 53 := tvDl_get dlk_X0_takeBest 31 rfl rfl
theorem dk_X0_takeBest_53 : tvD cX0_takeBest 53 (.istore 5) 2 55 := tvDl_get dlk_X0_takeBest 32 rfl rfl
theorem dk_X0_takeBest_55 : tvD cX0_takeBest 55 (.iload 5) 2 57 := tvDl_get dlk_X0_takeBest 33 rfl rfl
theorem dk_X0_takeBest_57 : tvD cX0_takeBest 57 (.iload_n 2) 1 58 := tvDl_get dlk_X0_takeBest 34 rfl rfl
theorem dk_X0_takeBest_58 : tvJ cX0_takeBest 58 (.if_icmp .ge) 83 61 := tvJl_get dlk_X0_takeBest 35 rfl (by decide) rfl
theorem dk_X0_takeBest_61 : tvD cX0_takeBest 61 (.aload_n 0) 1 62 := tvDl_get dlk_X0_takeBest 36 rfl rfl
theorem dk_X0_takeBest_62 : tvD cX0_takeBest 62 (.iload_n 1) 1 63 := tvDl_get dlk_X0_takeBest 37 rfl rfl
theorem dk_X0_takeBest_63 : tvD cX0_takeBest 63 (.iload 5) 2 65 := tvDl_get dlk_X0_takeBest 38 rfl rfl
theorem dk_X0_takeBest_65 : tvD cX0_takeBest 65 (.iconst 1) 1 66 := tvDl_get dlk_X0_takeBest 39 rfl rfl
theorem dk_X0_takeBest_66 : tvD cX0_takeBest 66 (.isub) 1 67 := tvDl_get dlk_X0_takeBest 40 rfl rfl
theorem dk_X0_takeBest_67 : tvD cX0_takeBest 67 (.aload_n 0) 1 68 := tvDl_get dlk_X0_takeBest 41 rfl rfl
theorem dk_X0_takeBest_68 : tvD cX0_takeBest 68 (.iload_n 1) 1 69 := tvDl_get dlk_X0_takeBest 42 rfl rfl
theorem dk_X0_takeBest_69 : tvD cX0_takeBest 69 (.iload 5) 2 71 := tvDl_get dlk_X0_takeBest 43 rfl rfl
theorem dk_X0_takeBest_71 : tvD cX0_takeBest 71 (.invokevirtual 84) 3 74 := tvDl_get dlk_X0_takeBest 44 rfl rfl
theorem dk_X0_takeBest_74 : tvD cX0_takeBest 74 (.invokevirtual 76) 3 77 := tvDl_get dlk_X0_takeBest 45 rfl rfl
theorem dk_X0_takeBest_77 : tvD cX0_takeBest 77 (.iinc 5 1) 3 80 := tvDl_get dlk_X0_takeBest 46 rfl rfl
theorem dk_X0_takeBest_80 : tvJ cX0_takeBest 80 .goto 55 83 := tvJl_get dlk_X0_takeBest 47 rfl (by decide) rfl
theorem dk_X0_takeBest_83 : tvD cX0_takeBest 83 (.aload_n 0) 1 84 := tvDl_get dlk_X0_takeBest 48 rfl rfl
theorem dk_X0_takeBest_84 : tvD cX0_takeBest 84 (.iload_n 1) 1 85 := tvDl_get dlk_X0_takeBest 49 rfl rfl
theorem dk_X0_takeBest_85 : tvD cX0_takeBest 85 (.iload_n 2) 1 86 := tvDl_get dlk_X0_takeBest 50 rfl rfl
theorem dk_X0_takeBest_86 : tvD cX0_takeBest 86 (.iconst 1) 1 87 := tvDl_get dlk_X0_takeBest 51 rfl rfl
theorem dk_X0_takeBest_87 : tvD cX0_takeBest 87 (.isub) 1 88 := tvDl_get dlk_X0_takeBest 52 rfl rfl
theorem dk_X0_takeBest_88 : tvD cX0_takeBest 88 (.invokevirtual 80) 3 91 := tvDl_get dlk_X0_takeBest 53 rfl rfl
theorem dk_X0_takeBest_91 : tvD cX0_takeBest 91 (.pop) 1 92 := tvDl_get dlk_X0_takeBest 54 rfl rfl
theorem dk_X0_takeBest_92 : tvD cX0_takeBest 92 (.iload 4) 2 94 := tvDl_get dlk_X0_takeBest 55 rfl rfl
theorem dk_X0_takeBest_94 : tvD cX0_takeBest 94 (.ireturn) 1 95 := tvDl_get dlk_X0_takeBest 56 rfl rfl
