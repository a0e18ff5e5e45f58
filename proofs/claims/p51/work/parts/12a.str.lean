theorem ml_RJ0_335 : Cond.methodLink RJ0 335 yJ0_coder_7d493 ∈ tvGW := tvgc (tvc_5 (List.mem_of_getElem? (i := 69) (by decide +kernel))) rfl
theorem ml_RJ0_492 : Cond.methodLink RJ0 492 yJ0_isLatin1_aae02 ∈ tvGW := tvgc (tvc_5 (List.mem_of_getElem? (i := 210) (by decide +kernel))) rfl
theorem ml_RJ0_495 : Cond.methodLink RJ0 495 yJ1_charAt_3b067 ∈ tvGW := tvgc (tvc_5 (List.mem_of_getElem? (i := 214) (by decide +kernel))) rfl
theorem ml_RJ0_1059 : Cond.methodLink RJ0 1059 yJ3_checkIndex_8e157 ∈ tvGW := tvgc (tvc_5 (List.mem_of_getElem? (i := 220) (by decide +kernel))) rfl
theorem ml_RJ1_9 : Cond.methodLink RJ1 9 yJ0_checkIndex_df160 ∈ tvGW := tvgc (tvc_5 (List.mem_of_getElem? (i := 217) (by decide +kernel))) rfl
theorem yk_J0_charAt_5068e : tvYk yJ0_charAt_5068e cJ0_charAt_5068e 2 (some .char) 1 := ⟨tvgc (tvc_5 (List.mem_of_getElem? (i := 209) (by decide +kernel))) rfl, tvgc (tvc_1 (List.mem_of_getElem? (i := 21) (by decide +kernel))) rfl, by decide +kernel, by decide +kernel, by decide +kernel⟩
theorem yi_J0_charAt_5068e : tvYi yJ0_charAt_5068e := ⟨tvgc (tvc_5 (List.mem_of_getElem? (i := 207) (by decide +kernel))) rfl, tvgc (tvc_5 (List.mem_of_getElem? (i := 208) (by decide +kernel))) rfl⟩
theorem yk_J0_checkIndex_df160 : tvYk yJ0_checkIndex_df160 cJ0_checkIndex_df160 2 none 2 := ⟨tvgc (tvc_5 (List.mem_of_getElem? (i := 219) (by decide +kernel))) rfl, tvgc (tvc_1 (List.mem_of_getElem? (i := 21) (by decide +kernel))) rfl, by decide +kernel, by decide +kernel, by decide +kernel⟩
theorem yi_J0_checkIndex_df160 : Cond.static yJ0_checkIndex_df160 ∈ tvGW := tvgc (tvc_5 (List.mem_of_getElem? (i := 218) (by decide +kernel))) rfl
theorem yk_J0_coder_7d493 : tvYk yJ0_coder_7d493 cJ0_coder_7d493 1 (some .byte) 0 := ⟨tvgc (tvc_5 (List.mem_of_getElem? (i := 72) (by decide +kernel))) rfl, tvgc (tvc_1 (List.mem_of_getElem? (i := 21) (by decide +kernel))) rfl, by decide +kernel, by decide +kernel, by decide +kernel⟩
theorem yi_J0_coder_7d493 : tvYi yJ0_coder_7d493 := ⟨tvgc (tvc_5 (List.mem_of_getElem? (i := 70) (by decide +kernel))) rfl, tvgc (tvc_5 (List.mem_of_getElem? (i := 71) (by decide +kernel))) rfl⟩
theorem yk_J0_isLatin1_aae02 : tvYk yJ0_isLatin1_aae02 cJ0_isLatin1_aae02 1 (some .boolean) 0 := ⟨tvgc (tvc_5 (List.mem_of_getElem? (i := 213) (by decide +kernel))) rfl, tvgc (tvc_1 (List.mem_of_getElem? (i := 21) (by decide +kernel))) rfl, by decide +kernel, by decide +kernel, by decide +kernel⟩
theorem yi_J0_isLatin1_aae02 : tvYi yJ0_isLatin1_aae02 := ⟨tvgc (tvc_5 (List.mem_of_getElem? (i := 211) (by decide +kernel))) rfl, tvgc (tvc_5 (List.mem_of_getElem? (i := 212) (by decide +kernel))) rfl⟩
theorem yk_J0_length_8abf5 : tvYk yJ0_length_8abf5 cJ0_length_8abf5 1 (some .int) 0 := ⟨tvgc (tvc_5 (List.mem_of_getElem? (i := 68) (by decide +kernel))) rfl, tvgc (tvc_1 (List.mem_of_getElem? (i := 21) (by decide +kernel))) rfl, by decide +kernel, by decide +kernel, by decide +kernel⟩
theorem yi_J0_length_8abf5 : tvYi yJ0_length_8abf5 := ⟨tvgc (tvc_5 (List.mem_of_getElem? (i := 66) (by decide +kernel))) rfl, tvgc (tvc_5 (List.mem_of_getElem? (i := 67) (by decide +kernel))) rfl⟩
theorem yk_J1_charAt_3b067 : tvYk yJ1_charAt_3b067 cJ1_charAt_3b067 2 (some .char) 2 := ⟨tvgc (tvc_5 (List.mem_of_getElem? (i := 216) (by decide +kernel))) rfl, tvgc (tvc_1 (List.mem_of_getElem? (i := 28) (by decide +kernel))) rfl, by decide +kernel, by decide +kernel, by decide +kernel⟩
theorem yi_J1_charAt_3b067 : Cond.static yJ1_charAt_3b067 ∈ tvGW := tvgc (tvc_5 (List.mem_of_getElem? (i := 215) (by decide +kernel))) rfl
theorem yk_J3_checkIndex_8e157 : tvYk yJ3_checkIndex_8e157 cJ3_checkIndex_8e157 3 (some .int) 3 := ⟨tvgc (tvc_5 (List.mem_of_getElem? (i := 222) (by decide +kernel))) rfl, tvgc (tvc_1 (List.mem_of_getElem? (i := 27) (by decide +kernel))) rfl, by decide +kernel, by decide +kernel, plainFor_of_name (by decide +kernel)⟩
theorem yi_J3_checkIndex_8e157 : Cond.static yJ3_checkIndex_8e157 ∈ tvGW := tvgc (tvc_5 (List.mem_of_getElem? (i := 221) (by decide +kernel))) rfl
def dl_J0_charAt_5068e : List (Nat × Instr × Nat) := [(0, .aload_n 0, 1), (1, .invokevirtual 492, 3), (4, .ifCond .eq 12, 3), (7, .aload_n 0, 1), (8, .getfield 9, 3), (11, .iload_n 1, 1), (12, .invokestatic 495, 3), (15, .ireturn, 1)]
theorem dlk_J0_charAt_5068e : tvDl cJ0_charAt_5068e dl_J0_charAt_5068e = true := by decide +kernel
theorem dk_J0_charAt_5068e_0 : tvD cJ0_charAt_5068e 0 (.aload_n 0) 1 1 := tvDl_get dlk_J0_charAt_5068e 0 rfl rfl
theorem dk_J0_charAt_5068e_1 : tvD cJ0_charAt_5068e 1 (.invokevirtual 492) 3 4 := tvDl_get dlk_J0_charAt_5068e 1 rfl rfl
theorem dk_J0_charAt_5068e_4 : tvJ cJ0_charAt_5068e 4 (.ifCond .eq) 16 7 := tvJl_get dlk_J0_charAt_5068e 2 rfl (by decide) rfl
theorem dk_J0_charAt_5068e_7 : tvD cJ0_charAt_5068e 7 (.aload_n 0) 1 8 := tvDl_get dlk_J0_charAt_5068e 3 rfl rfl
theorem dk_J0_charAt_5068e_8 : tvD cJ0_charAt_5068e 8 (.getfield 9) 3 11 := tvDl_get dlk_J0_charAt_5068e 4 rfl rfl
theorem dk_J0_charAt_5068e_11 : tvD cJ0_charAt_5068e 11 (.iload_n 1) 1 12 := tvDl_get dlk_J0_charAt_5068e 5 rfl rfl
theorem dk_J0_charAt_5068e_12 : tvD cJ0_charAt_5068e 12 (.invokestatic 495) 3 15 := tvDl_get dlk_J0_charAt_5068e 6 rfl rfl
theorem dk_J0_charAt_5068e_15 : tvD cJ0_charAt_5068e 15 (.ireturn) 1 16 := tvDl_get dlk_J0_charAt_5068e 7 rfl rfl
def dl_J0_checkIndex_df160 : List (Nat × Instr × Nat) := [(0, .iload_n 0, 1), (1, .iload_n 1, 1), (2, .getstatic 1053, 3), (5, .invokestatic 1059, 3), (8, .pop, 1), (9, .return_, 1)]
theorem dlk_J0_checkIndex_df160 : tvDl cJ0_checkIndex_df160 dl_J0_checkIndex_df160 = true := by decide +kernel
theorem dk_J0_checkIndex_df160_0 : tvD cJ0_checkIndex_df160 0 (.iload_n 0) 1 1 := tvDl_get dlk_J0_checkIndex_df160 0 rfl rfl
theorem dk_J0_checkIndex_df160_1 : tvD cJ0_checkIndex_df160 1 (.iload_n 1) 1 2 := tvDl_get dlk_J0_checkIndex_df160 1 rfl rfl
theorem dk_J0_checkIndex_df160_2 : tvD cJ0_checkIndex_df160 2 (.getstatic 1053) 3 5 := tvDl_get dlk_J0_checkIndex_df160 2 rfl rfl
theorem dk_J0_checkIndex_df160_5 : tvD cJ0_checkIndex_df160 5 (.invokestatic 1059) 3 8 := tvDl_get dlk_J0_checkIndex_df160 3 rfl rfl
theorem dk_J0_checkIndex_df160_8 : tvD cJ0_checkIndex_df160 8 (.pop) 1 9 := tvDl_get dlk_J0_checkIndex_df160 4 rfl rfl
theorem dk_J0_checkIndex_df160_9 : tvD cJ0_checkIndex_df160 9 (.return_) 1 10 := tvDl_get dlk_J0_checkIndex_df160 5 rfl rfl
def dl_J0_coder_7d493 : List (Nat × Instr × Nat) := [(0, .getstatic 38, 3), (3, .ifCond .eq 10, 3), (6, .aload_n 0, 1), (7, .getfield 15, 3), (10, .goto 4, 3), (14, .ireturn, 1)]
theorem dlk_J0_coder_7d493 : tvDl cJ0_coder_7d493 dl_J0_coder_7d493 = true := by decide +kernel
theorem dk_J0_coder_7d493_0 : tvD cJ0_coder_7d493 0 (.getstatic 38) 3 3 := tvDl_get dlk_J0_coder_7d493 0 rfl rfl
theorem dk_J0_coder_7d493_3 : tvJ cJ0_coder_7d493 3 (.ifCond .eq) 13 6 := tvJl_get dlk_J0_coder_7d493 1 rfl (by decide) rfl
theorem dk_J0_coder_7d493_6 : tvD cJ0_coder_7d493 6 (.aload_n 0) 1 7 := tvDl_get dlk_J0_coder_7d493 2 rfl rfl
theorem dk_J0_coder_7d493_7 : tvD cJ0_coder_7d493 7 (.getfield 15) 3 10 := tvDl_get dlk_J0_coder_7d493 3 rfl rfl
theorem dk_J0_coder_7d493_10 : tvJ cJ0_coder_7d493 10 .goto 14 13 := tvJl_get dlk_J0_coder_7d493 4 rfl (by decide) rfl
theorem dk_J0_coder_7d493_14 : tvD cJ0_coder_7d493 14 (.ireturn) 1 15 := tvDl_get dlk_J0_coder_7d493 5 rfl rfl
def dl_J0_isLatin1_aae02 : List (Nat × Instr × Nat) := [(0, .getstatic 38, 3), (3, .ifCond .eq 14, 3), (6, .aload_n 0, 1), (7, .getfield 15, 3), (10, .ifCond .ne 7, 3), (13, .iconst 1, 1), (14, .goto 4, 3), (18, .ireturn, 1)]
theorem dlk_J0_isLatin1_aae02 : tvDl cJ0_isLatin1_aae02 dl_J0_isLatin1_aae02 = true := by decide +kernel
theorem dk_J0_isLatin1_aae02_0 : tvD cJ0_isLatin1_aae02 0 (.getstatic 38) 3 3 := tvDl_get dlk_J0_isLatin1_aae02 0 rfl rfl
theorem dk_J0_isLatin1_aae02_3 : tvJ cJ0_isLatin1_aae02 3 (.ifCond .eq) 17 6 := tvJl_get dlk_J0_isLatin1_aae02 1 rfl (by decide) rfl
theorem dk_J0_isLatin1_aae02_6 : tvD cJ0_isLatin1_aae02 6 (.aload_n 0) 1 7 := tvDl_get dlk_J0_isLatin1_aae02 2 rfl rfl
theorem dk_J0_isLatin1_aae02_7 : tvD cJ0_isLatin1_aae02 7 (.getfield 15) 3 10 := tvDl_get dlk_J0_isLatin1_aae02 3 rfl rfl
theorem dk_J0_isLatin1_aae02_10 : tvJ cJ0_isLatin1_aae02 10 (.ifCond .ne) 17 13 := tvJl_get dlk_J0_isLatin1_aae02 4 rfl (by decide) rfl
theorem dk_J0_isLatin1_aae02_13 : tvD cJ0_isLatin1_aae02 13 (.iconst 1) 1 14 := tvDl_get dlk_J0_isLatin1_aae02 5 rfl rfl
theorem dk_J0_isLatin1_aae02_14 : tvJ cJ0_isLatin1_aae02 14 .goto 18 17 := tvJl_get dlk_J0_isLatin1_aae02 6 rfl (by decide) rfl
theorem dk_J0_isLatin1_aae02_18 : tvD cJ0_isLatin1_aae02 18 (.ireturn) 1 19 := tvDl_get dlk_J0_isLatin1_aae02 7 rfl rfl
def dl_J0_length_8abf5 : List (Nat × Instr × Nat) := [(0, .aload_n 0, 1), (1, .getfield 9, 3), (4, .arraylength, 1), (5, .aload_n 0, 1), (6, .invokevirtual 335, 3), (9, .ishr, 1), (10, .ireturn, 1)]
theorem dlk_J0_length_8abf5 : tvDl cJ0_length_8abf5 dl_J0_length_8abf5 = true := by decide +kernel
theorem dk_J0_length_8abf5_0 : tvD cJ0_length_8abf5 0 (.aload_n 0) 1 1 := tvDl_get dlk_J0_length_8abf5 0 rfl rfl
theorem dk_J0_length_8abf5_1 : tvD cJ0_length_8abf5 1 (.getfield 9) 3 4 := tvDl_get dlk_J0_length_8abf5 1 rfl rfl
theorem dk_J0_length_8abf5_4 : tvD cJ0_length_8abf5 4 (.arraylength) 1 5 := tvDl_get dlk_J0_length_8abf5 2 rfl rfl
theorem dk_J0_length_8abf5_5 : tvD cJ0_length_8abf5 5 (.aload_n 0) 1 6 := tvDl_get dlk_J0_length_8abf5 3 rfl rfl
theorem dk_J0_length_8abf5_6 : tvD cJ0_length_8abf5 6 (.invokevirtual 335) 3 9 := tvDl_get dlk_J0_length_8abf5 4 rfl rfl
theorem dk_J0_length_8abf5_9 : tvD cJ0_length_8abf5 9 (.ishr) 1 10 := tvDl_get dlk_J0_length_8abf5 5 rfl rfl
theorem dk_J0_length_8abf5_10 : tvD cJ0_length_8abf5 10 (.ireturn) 1 11 := tvDl_get dlk_J0_length_8abf5 6 rfl rfl
def dl_J1_charAt_3b067 : List (Nat × Instr × Nat) := [(0, .iload_n 1, 1), (1, .aload_n 0, 1), (2, .arraylength, 1), (3, .invokestatic 9, 3), (6, .aload_n 0, 1), (7, .iload_n 1, 1), (8, .baload, 1), (9, .sipush 255, 3), (12, .iand, 1), (13, .i2c, 1), (14, .ireturn, 1)]
theorem dlk_J1_charAt_3b067 : tvDl cJ1_charAt_3b067 dl_J1_charAt_3b067 = true := by decide +kernel
theorem dk_J1_charAt_3b067_0 : tvD cJ1_charAt_3b067 0 (.iload_n 1) 1 1 := tvDl_get dlk_J1_charAt_3b067 0 rfl rfl
theorem dk_J1_charAt_3b067_1 : tvD cJ1_charAt_3b067 1 (.aload_n 0) 1 2 := tvDl_get dlk_J1_charAt_3b067 1 rfl rfl
theorem dk_J1_charAt_3b067_2 : tvD cJ1_charAt_3b067 2 (.arraylength) 1 3 := tvDl_get dlk_J1_charAt_3b067 2 rfl rfl
theorem dk_J1_charAt_3b067_3 : tvD cJ1_charAt_3b067 3 (.invokestatic 9) 3 6 := tvDl_get dlk_J1_charAt_3b067 3 rfl rfl
theorem dk_J1_charAt_3b067_6 : tvD cJ1_charAt_3b067 6 (.aload_n 0) 1 7 := tvDl_get dlk_J1_charAt_3b067 4 rfl rfl
theorem dk_J1_charAt_3b067_7 : tvD cJ1_charAt_3b067 7 (.iload_n 1) 1 8 := tvDl_get dlk_J1_charAt_3b067 5 rfl rfl
theorem dk_J1_charAt_3b067_8 : tvD cJ1_charAt_3b067 8 (.baload) 1 9 := tvDl_get dlk_J1_charAt_3b067 6 rfl rfl
theorem dk_J1_charAt_3b067_9 : tvD cJ1_charAt_3b067 9 (.sipush 255) 3 12 := tvDl_get dlk_J1_charAt_3b067 7 rfl rfl
theorem dk_J1_charAt_3b067_12 : tvD cJ1_charAt_3b067 12 (.iand) 1 13 := tvDl_get dlk_J1_charAt_3b067 8 rfl rfl
theorem dk_J1_charAt_3b067_13 : tvD cJ1_charAt_3b067 13 (.i2c) 1 14 := tvDl_get dlk_J1_charAt_3b067 9 rfl rfl
theorem dk_J1_charAt_3b067_14 : tvD cJ1_charAt_3b067 14 (.ireturn) 1 15 := tvDl_get dlk_J1_charAt_3b067 10 rfl rfl
def dl_J3_checkIndex_8e157 : List (Nat × Instr × Nat) := [(0, .iload_n 0, 1), (1, .ifCond .lt 8, 3), (4, .iload_n 0, 1), (5, .iload_n 1, 1), (6, .if_icmp .lt 10, 3), (16, .iload_n 0, 1), (17, .ireturn, 1)]
theorem dlk_J3_checkIndex_8e157 : tvDl cJ3_checkIndex_8e157 dl_J3_checkIndex_8e157 = true := by decide +kernel
theorem dk_J3_checkIndex_8e157_0 : tvD cJ3_checkIndex_8e157 0 (.iload_n 0) 1 1 := tvDl_get dlk_J3_checkIndex_8e157 0 rfl rfl
theorem dk_J3_checkIndex_8e157_1 : tvJ cJ3_checkIndex_8e157 1 (.ifCond .lt) 9 4 := tvJl_get dlk_J3_checkIndex_8e157 1 rfl (by decide) rfl
theorem dk_J3_checkIndex_8e157_4 : tvD cJ3_checkIndex_8e157 4 (.iload_n 0) 1 5 := tvDl_get dlk_J3_checkIndex_8e157 2 rfl rfl
theorem dk_J3_checkIndex_8e157_5 : tvD cJ3_checkIndex_8e157 5 (.iload_n 1) 1 6 := tvDl_get dlk_J3_checkIndex_8e157 3 rfl rfl
theorem dk_J3_checkIndex_8e157_6 : tvJ cJ3_checkIndex_8e157 6 (.if_icmp .lt) 16 9 := tvJl_get dlk_J3_checkIndex_8e157 4 rfl (by decide) rfl
theorem dk_J3_checkIndex_8e157_16 : tvD cJ3_checkIndex_8e157 16 (.iload_n 0) 1 17 := tvDl_get dlk_J3_checkIndex_8e157 5 rfl rfl
theorem dk_J3_checkIndex_8e157_17 : tvD cJ3_checkIndex_8e157 17 (.ireturn) 1 18 := tvDl_get dlk_J3_checkIndex_8e157 6 rfl rfl
